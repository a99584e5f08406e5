/-! pairs -/
noncomputable def prI (a : Bx) : List Bx → List (Int32 × Int32)
  | [] => []
  | b :: t => if b01 (bMeets a b) = 0 then prI a t else (a.1, b.1) :: prI a t
noncomputable def prs : List Bx → List (Int32 × Int32)
  | [] => []
  | a :: t => prI a t ++ prs t
def flt (ps : List (Int32 × Int32)) : List Int32 := (ps.take 2048).flatMap (fun q => [q.1, q.2])
theorem flt_lt {ps : List (Int32 × Int32)} (h : ps.length < 2048) (a b : Int32) : flt (ps ++ [(a, b)]) = flt ps ++ [a] ++ [b] := by
  unfold flt
  rw [List.take_of_length_le (by rw [List.length_append]; exact h), List.take_of_length_le (Nat.le_of_lt h), List.flatMap_append]
  simp
theorem flt_ge {ps : List (Int32 × Int32)} (h : 2048 ≤ ps.length) (q : Int32 × Int32) : flt (ps ++ [q]) = flt ps := by
  unfold flt
  rw [List.take_append_of_le_length h]
theorem flt_len (ps : List (Int32 × Int32)) : (flt ps).length = 2 * min 2048 ps.length := by
  have h : ∀ qs : List (Int32 × Int32), (qs.flatMap (fun q => [q.1, q.2])).length = 2 * qs.length := by
    intro qs
    induction qs with
    | nil => rfl
    | cons a t ih => rw [List.flatMap_cons, List.length_append, ih, List.length_cons]; simp; omega
  unfold flt
  rw [h, List.length_take]
theorem app_any (l : Launch) (G : Gl) (w : World) {x L E F Gd cF : Nat} {bs : List Bx} {rs : List Int32} (hD : DAt G w x L E F Gd bs rs cF) (h4 : rs.length < 4096) (v : Int32) : ∃ (mc ms c1 : Nat) (g : Nat → Int32), w F = some (.inl (G.2.1.1, cF, .inl g)) ∧ GnV l y_B_append ws_B_append 3 mc ms G w [.ref x, .int v] (fun w1 => AppQ G w w1 x L F Gd rs.length c1 v g) ∧ rs.length + 1 ≤ c1 ∧ 16 ≤ c1 ∧ c1 ≤ 4096 ∧ ∀ ce sl : Nat, Use cF ce sl → Use c1 (ce + mc) (sl + ms) := by
  obtain ⟨hB, -, ⟨g, hF, -⟩, -, hc1, hc2, hc3⟩ := hD
  by_cases h : rs.length < cF
  · exact ⟨0, 0, cF, g, hF, k_B_append0 l G w hB hF v h hc3, h, hc2, hc3, fun ce sl hU => hU⟩
  · refine ⟨1, min (2 * cF) 4096, min (2 * cF) 4096, g, hF, k_B_append1 l G w hB hF v _ (by omega) (by omega) (by omega) rfl, by omega, by omega, by omega, fun ce sl hU => ?_⟩
    unfold Use at hU ⊢
    omega

set_option maxHeartbeats 4000000 in
set_option maxRecDepth 100000 in
theorem k_B_pairs (l : Launch) (G : Gl) (w : World) {x L E F Gd cF : Nat} {bs : List Bx} {rs : List Int32} (hD : DAt G w x L E F Gd bs rs cF) (hln : bs.length ≤ 4096) :
    GnI l y_B_pairs ws_B_pairs 6 260 12300 G w [.ref x] (fun r w1 => r = nI (prs bs).length ∧ DQ G w w1 x L E F Gd bs (flt (prs bs)) (fun _ => True)) := by
  refine met_ent (by decide +kernel) (Nat.le_of_ble_eq_true rfl) (fun p e s m below meth c ls C0 hr hin hH hl => ?_)
  have hx := C0.1
  have hb := C0.2.1
  have hS : va_S (gA G) s.heap s.heap [] := va_S.rf
  have hA : ∀ q : Nat, s.heap.size ≤ q → gA G q := fun q h => Nat.le_trans C0.ev.2.2.2.2.2.2.2.2.2.2.2.2 h
  have hl : lv_has ls 6 [(0, .ref x)] := hl
  obtain ⟨hB, ⟨N, f, md, hLs, hN0⟩, ⟨g, hF, hg⟩, ⟨cG, d, hGd, hcG⟩, hc1, hc2, hc3⟩ := id hD
  obtain ⟨hL1, hL2, hL3, hL4, hL5⟩ := id hLs
  have h00 := ge0_none C0 hH
  refine lv_aload_n hx hb d_B_pairs_0 rfl (lv_at hl 0 rfl) ?_
  refine lv_iconst (v := 0) hx hb d_B_pairs_1 (by decide) ?_
  refine pf_B_20 C0 hH hS hB rfl rfl (Nat.le_of_ble_eq_true rfl) d_B_pairs_2 (fun H locs hH hS => ?_)
  obtain ⟨w1, ew1⟩ : ∃ z : World, z = va_up w x (some (.inr (2, [.ref L, .ref F, .int 0, .ref Gd]))) := ⟨_, rfl⟩
  have hH : Hw G w1 H := by rw [ew1]; exact hH
  have hw1_x : w1 x = some (.inr (2, [.ref L, .ref F, .int 0, .ref Gd])) := by rw [ew1]; exact va_up_self _ _ _
  refine lv_iconst (v := 0) hx hb d_B_pairs_5 (by decide) ?_
  refine lv_istore_n (lv' := [(1, .int 0), (0, .ref x)]) hx hb d_B_pairs_6 rfl hl (by decide) rfl (fun ls hl => ?_)
  refine lv_iconst (v := 0) hx hb d_B_pairs_7 (by decide) ?_
  refine lv_istore_n (lv' := [(2, .int 0), (1, .int 0), (0, .ref x)]) hx hb d_B_pairs_8 rfl hl (by decide) rfl (fun ls hl => ?_)
  obtain ⟨hD3, hK3⟩ := DAt.res0 hD h00 ew1
  have loopO : ∀ (u i : Nat), i + u = bs.length → ∀ (w9 : World) (F9 cF9 ce sl : Nat) (acc : List Int32) (ps : List (Int32 × Int32)) (H : Heap) (locs : List Loc), Hw G w9 H → va_S (gA G) s.heap H locs → DAt G w9 x L E F9 Gd bs acc cF9 → Kp w w9 [x, F] → (F9 = F ∨ w F9 = none) → Use cF9 ce sl → acc = flt ps → ps.length ≤ 4096 * i → ps ++ prs (bs.drop i) = prs bs → ∀ ls : Array Slot, lv_has ls 6 [(0, .ref x), (1, .int (nI ps.length)), (2, .int (nI i))] → W p l e (rmK 6 260 12300) s m [.ref x].toArray below meth c H locs ce sl (MQ below (va_Qi (fun r w1 => r = nI (prs bs).length ∧ DQ G w w1 x L E F Gd bs (flt (prs bs)) (fun _ => True)) (Wo G) (gA G)) [.ref x].toArray s 260 12300 (gA G)) (F0 m 9 ls []) := by
    intro u
    induction u with
    | zero =>
      intro i hi w9 F9 cF9 ce sl acc ps H locs hH hS hD9 hK9 hFf hU hac hps hpe ls hl
      have hU0 := hU
      unfold Use at hU
      obtain ⟨hB9, ⟨N9, f9, md9, hLs9, hN9⟩, ⟨g9, hF9, hg9⟩, ⟨cG9, d9, hGd9, hcG9⟩, hc19, hc29, hc39⟩ := id hD9
      obtain ⟨hL19, hL29, hL39, hL49, hL59⟩ := id hLs9
      have h09 := ge0_none C0 hH
      refine lv_iload_n hx hb d_B_pairs_9 rfl (lv_at hl 2 rfl) ?_
      refine lv_aload_n hx hb d_B_pairs_10 rfl (lv_at hl 0 rfl) ?_
      refine gf_B_10 C0 hH hB9 rfl d_B_pairs_11 ?_
      refine pu_v (runV C0 (k_A_size l G w9 hL19) (cs_B_61 C0 ⟨Nat.le_of_ble_eq_true rfl, Nat.le_of_ble_eq_true rfl⟩) hH hS (hd_recv C0.hK hH rfl hL19) rfl hl.1 rfl (lv_room (Nat.le_of_ble_eq_true rfl)) d_B_pairs_14 ⟨by show _ ≤ 260; omega, by show _ ≤ 12300; omega⟩) ?_
      refine lv_icmp_ge (tgt := 111) hx hb d_B_pairs_17 (by decide) (fun c_17 => ?_) (fun c_17 => ?_)
      · have hfin : ps = prs bs := by rw [← hpe, List.drop_eq_nil_of_le (by omega), prs, List.append_nil]
        refine lv_iload_n hx hb d_B_pairs_111 rfl (lv_at hl 1 rfl) ?_
        refine W.widen (k := 260) (n := 12300) (by omega) (by omega) ?_
        exact W.iret hx hb hr (fun t ht hW => ⟨⟨(nI ps.length), w9, rfl, ⟨by rw [hfin], by rw [← hfin, ← hac]; exact ⟨E, F9, Gd, cF9, Or.inl rfl, hFf, Or.inl rfl, hD9, hK9.mono (fun b hb => Or.inl (by rcases List.mem_cons.mp hb with q | q; (· simp [q]); (· simp [List.mem_singleton.mp q]))), trivial⟩⟩, Wo.at C0.ev hH hS ht hW⟩, hS.F ht⟩) hS.2.2 d_B_pairs_112 (hlocks := C0.2.2.2.2.2.2)
      · exact absurd (nI_le (show bs.length ≤ i by omega) (by omega)) c_17
    | succ u iho =>
      intro i hi w9 F9 cF9 ce sl acc ps H locs hH hS hD9 hK9 hFf hU hac hps hpe ls hl
      have hU0 := hU
      unfold Use at hU
      obtain ⟨hB9, ⟨N9, f9, md9, hLs9, hN9⟩, ⟨g9, hF9, hg9⟩, ⟨cG9, d9, hGd9, hcG9⟩, hc19, hc29, hc39⟩ := id hD9
      obtain ⟨hL19, hL29, hL39, hL49, hL59⟩ := id hLs9
      have h09 := ge0_none C0 hH
      refine lv_iload_n hx hb d_B_pairs_9 rfl (lv_at hl 2 rfl) ?_
      refine lv_aload_n hx hb d_B_pairs_10 rfl (lv_at hl 0 rfl) ?_
      refine gf_B_10 C0 hH hB9 rfl d_B_pairs_11 ?_
      refine pu_v (runV C0 (k_A_size l G w9 hL19) (cs_B_61 C0 ⟨Nat.le_of_ble_eq_true rfl, Nat.le_of_ble_eq_true rfl⟩) hH hS (hd_recv C0.hK hH rfl hL19) rfl hl.1 rfl (lv_room (Nat.le_of_ble_eq_true rfl)) d_B_pairs_14 ⟨by show _ ≤ 260; omega, by show _ ≤ 12300; omega⟩) ?_
      refine lv_icmp_ge (tgt := 111) hx hb d_B_pairs_17 (by decide) (fun c_17 => ?_) (fun c_17 => ?_)
      · exact absurd c_17 (Int32.not_le.mpr (nI_lt (show i < bs.length by omega) (by omega)))
      · have hil : i < bs.length := by omega
        refine lv_aload_n hx hb d_B_pairs_20 rfl (lv_at hl 0 rfl) ?_
        refine gf_B_10 C0 hH hB9 rfl d_B_pairs_21 ?_
        refine lv_iload_n hx hb d_B_pairs_24 rfl (lv_at hl 2 rfl) ?_
        obtain ⟨xi, hf_xi, h_xi⟩ := hL59 i (hil)
        refine pu_v (runV C0 (k_A_get l G w9 hL19 (hLs9.arr (by omega)) (i := i) (by omega) hL29 (by omega) hf_xi) (cs_B_75 C0 ⟨Nat.le_of_ble_eq_true rfl, Nat.le_of_ble_eq_true rfl⟩) hH hS (hd_recv C0.hK hH rfl hL19) rfl hl.1 rfl (lv_room (Nat.le_of_ble_eq_true rfl)) d_B_pairs_25 ⟨by show _ ≤ 260; omega, by show _ ≤ 12300; omega⟩) ?_
        refine va_castY hx hb C0.2.2.2.1 (C0.2.2.2.2.1 _ mw_104) (C0.ev.2.2.2.2.2.2.1 (Cond.castable "BoxDrawer$Box" "BoxDrawer$Box") (by decide +kernel)) (hd_recv C0.hK hH rfl h_xi) d_B_pairs_28 ?_
        refine lv_astore_n (lv' := [(3, .ref xi), (0, .ref x), (1, .int (nI ps.length)), (2, .int (nI i))]) hx hb d_B_pairs_31 rfl hl (by decide) rfl (fun ls hl => ?_)
        refine lv_iload_n hx hb d_B_pairs_32 rfl (lv_at hl 3 rfl) ?_
        refine lv_iconst (v := 1) hx hb d_B_pairs_33 (by decide) ?_
        refine lv_iadd hx hb d_B_pairs_34 ?_
        refine lv_istore (lv' := [(4, .int ((nI i) + 1)), (3, .ref xi), (0, .ref x), (1, .int (nI ps.length)), (2, .int (nI i))]) hx hb d_B_pairs_35 hl (by decide) rfl (fun ls hl => ?_)
        have loopI : ∀ (u j : Nat), j + u = bs.length → ∀ (w9 : World) (F9 cF9 ce sl : Nat) (acc : List Int32) (ps : List (Int32 × Int32)) (H : Heap) (locs : List Loc), Hw G w9 H → va_S (gA G) s.heap H locs → DAt G w9 x L E F9 Gd bs acc cF9 → Kp w w9 [x, F] → (F9 = F ∨ w F9 = none) → Use cF9 ce sl → acc = flt ps → ps.length ≤ 4096 * i + j → w9 xi = some (.inr (1, bxf bs[i])) → ps ++ prI bs[i] (bs.drop j) ++ prs (bs.drop (i + 1)) = prs bs → ∀ ls : Array Slot, lv_has ls 6 [(0, .ref x), (1, .int (nI ps.length)), (2, .int (nI i)), (3, .ref xi), (4, .int (nI j))] → W p l e (rmK 6 260 12300) s m [.ref x].toArray below meth c H locs ce sl (MQ below (va_Qi (fun r w1 => r = nI (prs bs).length ∧ DQ G w w1 x L E F Gd bs (flt (prs bs)) (fun _ => True)) (Wo G) (gA G)) [.ref x].toArray s 260 12300 (gA G)) (F0 m 37 ls []) := by
          intro u
          induction u with
          | zero =>
            intro j hj w9 F9 cF9 ce sl acc ps H locs hH hS hD9 hK9 hFf hU hac hps hxi hpe ls hl
            have hU0 := hU
            unfold Use at hU
            obtain ⟨hB9, ⟨N9, f9, md9, hLs9, hN9⟩, ⟨g9, hF9, hg9⟩, ⟨cG9, d9, hGd9, hcG9⟩, hc19, hc29, hc39⟩ := id hD9
            obtain ⟨hL19, hL29, hL39, hL49, hL59⟩ := id hLs9
            have h09 := ge0_none C0 hH
            refine lv_iload hx hb d_B_pairs_37 (lv_at hl 4 rfl) ?_
            refine lv_aload_n hx hb d_B_pairs_39 rfl (lv_at hl 0 rfl) ?_
            refine gf_B_10 C0 hH hB9 rfl d_B_pairs_40 ?_
            refine pu_v (runV C0 (k_A_size l G w9 hL19) (cs_B_61 C0 ⟨Nat.le_of_ble_eq_true rfl, Nat.le_of_ble_eq_true rfl⟩) hH hS (hd_recv C0.hK hH rfl hL19) rfl hl.1 rfl (lv_room (Nat.le_of_ble_eq_true rfl)) d_B_pairs_43 ⟨by show _ ≤ 260; omega, by show _ ≤ 12300; omega⟩) ?_
            refine lv_icmp_ge (tgt := 105) hx hb d_B_pairs_46 (by decide) (fun c_46 => ?_) (fun c_46 => ?_)
            · obtain ⟨y_1, ey_1⟩ : ∃ z : Int32, z = (nI i) + 1 := ⟨_, rfl⟩
              refine lv_iinc (v := y_1) (lv' := [(2, .int y_1), (0, .ref x), (1, .int (nI ps.length)), (3, .ref xi), (4, .int (nI j))]) hx hb d_B_pairs_105 hl (k := 2) rfl (by rw [ey_1]; rfl) (by decide) rfl (fun ls hl => ?_)
              refine lv_goto (tgt := 9) hx hb d_B_pairs_108 (by decide) ?_
              rw [show y_1 = nI (i + 1) from by rw [ey_1]; exact nI_1 i] at hl
              exact iho (i + 1) (by omega) w9 F9 cF9 ce sl acc ps H locs hH hS hD9 hK9 hFf hU0 hac (by omega) (by rw [← hpe, show bs.drop j = [] from List.drop_eq_nil_of_le (by omega), prI, List.append_nil]) ls (lv_sub hl [1, 2, 0] rfl)
            · exact absurd (nI_le (show bs.length ≤ j by omega) (by omega)) c_46
          | succ u ih =>
            intro j hj w9 F9 cF9 ce sl acc ps H locs hH hS hD9 hK9 hFf hU hac hps hxi hpe ls hl
            have hU0 := hU
            unfold Use at hU
            obtain ⟨hB9, ⟨N9, f9, md9, hLs9, hN9⟩, ⟨g9, hF9, hg9⟩, ⟨cG9, d9, hGd9, hcG9⟩, hc19, hc29, hc39⟩ := id hD9
            obtain ⟨hL19, hL29, hL39, hL49, hL59⟩ := id hLs9
            have h09 := ge0_none C0 hH
            refine lv_iload hx hb d_B_pairs_37 (lv_at hl 4 rfl) ?_
            refine lv_aload_n hx hb d_B_pairs_39 rfl (lv_at hl 0 rfl) ?_
            refine gf_B_10 C0 hH hB9 rfl d_B_pairs_40 ?_
            refine pu_v (runV C0 (k_A_size l G w9 hL19) (cs_B_61 C0 ⟨Nat.le_of_ble_eq_true rfl, Nat.le_of_ble_eq_true rfl⟩) hH hS (hd_recv C0.hK hH rfl hL19) rfl hl.1 rfl (lv_room (Nat.le_of_ble_eq_true rfl)) d_B_pairs_43 ⟨by show _ ≤ 260; omega, by show _ ≤ 12300; omega⟩) ?_
            refine lv_icmp_ge (tgt := 105) hx hb d_B_pairs_46 (by decide) (fun c_46 => ?_) (fun c_46 => ?_)
            · exact absurd c_46 (Int32.not_le.mpr (nI_lt (show j < bs.length by omega) (by omega)))
            · have hjl : j < bs.length := by omega
              refine lv_aload_n hx hb d_B_pairs_49 rfl (lv_at hl 0 rfl) ?_
              refine gf_B_10 C0 hH hB9 rfl d_B_pairs_50 ?_
              refine lv_iload hx hb d_B_pairs_53 (lv_at hl 4 rfl) ?_
              obtain ⟨xj, hf_xj, h_xj⟩ := hL59 j (hjl)
              refine pu_v (runV C0 (k_A_get l G w9 hL19 (hLs9.arr (by omega)) (i := j) (by omega) hL29 (by omega) hf_xj) (cs_B_75 C0 ⟨Nat.le_of_ble_eq_true rfl, Nat.le_of_ble_eq_true rfl⟩) hH hS (hd_recv C0.hK hH rfl hL19) rfl hl.1 rfl (lv_room (Nat.le_of_ble_eq_true rfl)) d_B_pairs_55 ⟨by show _ ≤ 260; omega, by show _ ≤ 12300; omega⟩) ?_
              refine va_castY hx hb C0.2.2.2.1 (C0.2.2.2.2.1 _ mw_104) (C0.ev.2.2.2.2.2.2.1 (Cond.castable "BoxDrawer$Box" "BoxDrawer$Box") (by decide +kernel)) (hd_recv C0.hK hH rfl h_xj) d_B_pairs_58 ?_
              refine lv_astore (lv' := [(5, .ref xj), (0, .ref x), (1, .int (nI ps.length)), (2, .int (nI i)), (3, .ref xi), (4, .int (nI j))]) hx hb d_B_pairs_61 hl (by decide) rfl (fun ls hl => ?_)
              refine lv_aload_n hx hb d_B_pairs_63 rfl (lv_at hl 4 rfl) ?_
              refine lv_aload hx hb d_B_pairs_64 (lv_at hl 0 rfl) ?_
              refine pu_v (runVN C0 (k_X_meets l G w9 hxi h_xj) (cs_B_114 C0 ⟨Nat.le_of_ble_eq_true rfl, Nat.le_of_ble_eq_true rfl⟩) hH hS (hd_recv C0.hK hH rfl hxi) rfl hl.1 rfl (lv_room (Nat.le_of_ble_eq_true rfl)) d_B_pairs_66 ⟨by show _ ≤ 260; omega, by show _ ≤ 12300; omega⟩) ?_
              refine lv_if_eq (tgt := 99) hx hb d_B_pairs_69 (by decide) (fun c_69 => ?_) (fun c_69 => ?_)
              · obtain ⟨y_2, ey_2⟩ : ∃ z : Int32, z = (nI j) + 1 := ⟨_, rfl⟩
                refine lv_iinc (v := y_2) (lv' := [(4, .int y_2), (5, .ref xj), (0, .ref x), (1, .int (nI ps.length)), (2, .int (nI i)), (3, .ref xi)]) hx hb d_B_pairs_99 hl (k := 5) rfl (by rw [ey_2]; rfl) (by decide) rfl (fun ls hl => ?_)
                refine lv_goto (tgt := 37) hx hb d_B_pairs_102 (by decide) ?_
                rw [show y_2 = nI (j + 1) from by rw [ey_2]; exact nI_1 j] at hl
                exact ih (j + 1) (by omega) w9 F9 cF9 ce sl acc ps H locs hH hS hD9 hK9 hFf hU0 hac (by omega) hxi (by rw [← hpe, List.drop_eq_getElem_cons (i := j) hjl, prI, if_pos c_69]) ls (lv_sub hl [2, 3, 4, 5, 0] rfl)
              · refine lv_iload_n hx hb d_B_pairs_72 rfl (lv_at hl 2 rfl) ?_
                refine lv_sipush (v := 2048) hx hb d_B_pairs_73 (by decide) ?_
                refine lv_icmp_ge (tgt := 96) hx hb d_B_pairs_76 (by decide) (fun c_76 => ?_) (fun c_76 => ?_)
                · have hge9 : 2048 ≤ ps.length := Nat.le_of_not_lt (fun h => absurd c_76 (Int32.not_le.mpr (show nI ps.length < nI 2048 from nI_lt h (by decide))))
                  obtain ⟨y_3, ey_3⟩ : ∃ z : Int32, z = (nI ps.length) + 1 := ⟨_, rfl⟩
                  refine lv_iinc (v := y_3) (lv' := [(1, .int y_3), (5, .ref xj), (0, .ref x), (2, .int (nI i)), (3, .ref xi), (4, .int (nI j))]) hx hb d_B_pairs_96 hl (k := 2) rfl (by rw [ey_3]; rfl) (by decide) rfl (fun ls hl => ?_)
                  obtain ⟨y_4, ey_4⟩ : ∃ z : Int32, z = (nI j) + 1 := ⟨_, rfl⟩
                  refine lv_iinc (v := y_4) (lv' := [(4, .int y_4), (1, .int y_3), (5, .ref xj), (0, .ref x), (2, .int (nI i)), (3, .ref xi)]) hx hb d_B_pairs_99 hl (k := 5) rfl (by rw [ey_4]; rfl) (by decide) rfl (fun ls hl => ?_)
                  refine lv_goto (tgt := 37) hx hb d_B_pairs_102 (by decide) ?_
                  rw [show y_4 = nI (j + 1) from by rw [ey_4]; exact nI_1 j] at hl
                  rw [show y_3 = nI (ps ++ [(bs[i].1, bs[j].1)]).length from by rw [ey_3, List.length_append]; exact nI_1 _] at hl
                  exact ih (j + 1) (by omega) w9 F9 cF9 ce sl acc (ps ++ [(bs[i].1, bs[j].1)]) H locs hH hS hD9 hK9 hFf hU0 (by rw [hac]; exact (flt_ge hge9 _).symm) (by rw [List.length_append]; have : [(bs[i].1, bs[j].1)].length = 1 := rfl; omega) hxi (by rw [← hpe, List.drop_eq_getElem_cons (i := j) hjl, prI, if_neg c_69]; simp) ls (lv_sub hl [3, 1, 4, 5, 0] rfl)
                · have hlt9 : ps.length < 2048 := Nat.not_le.mp (fun h => c_76 (show nI 2048 ≤ nI ps.length from nI_le h (by omega)))
                  have hal := flt_len ps
                  rw [← hac] at hal
                  refine lv_aload_n hx hb d_B_pairs_79 rfl (lv_at hl 1 rfl) ?_
                  refine lv_aload_n hx hb d_B_pairs_80 rfl (lv_at hl 4 rfl) ?_
                  refine gf_B_82 C0 hH hxi rfl d_B_pairs_81 ?_
                  obtain ⟨mc8, ms8, c8, g8, hF8w, hA8, hc81, hc82, hc83, hU8⟩ := app_any l G w9 hD9 (by omega) ((bs[i]).1)
                  have hU8 := hU8 _ _ hU0
                  have hU80 := hU8
                  unfold Use at hU8
                  refine gn_v (runV C0 (hA8) (cs_B_85 C0 ⟨Nat.le_of_ble_eq_true rfl, Nat.le_of_ble_eq_true rfl⟩) hH hS (hd_recv C0.hK hH rfl hB9) rfl hl.1 rfl (lv_room (Nat.le_of_ble_eq_true rfl)) d_B_pairs_84 ⟨by show _ ≤ 260; omega, by show _ ≤ 12300; omega⟩) hS (fun w2 H locs hp2 hH hS => ?_)
                  obtain ⟨F8, hF8, hD8, hK8⟩ := hD9.app h09 hF8w hp2 hc81 hc82 hc83
                  have h08 := ge0_none C0 hH
                  have hB8 := hD8.1
                  have hxi8 := hK8 _ _ hxi (m2 (wne hxi hB9 (by simp)) (wne hxi hF9 (by simp)))
                  have hxj8 := hK8 _ _ h_xj (m2 (wne h_xj hB9 (by simp)) (wne h_xj hF9 (by simp)))
                  refine lv_aload_n hx hb d_B_pairs_87 rfl (lv_at hl 1 rfl) ?_
                  refine lv_aload hx hb d_B_pairs_88 (lv_at hl 0 rfl) ?_
                  refine gf_B_82 C0 hH hxj8 rfl d_B_pairs_90 ?_
                  have hl8 : (acc ++ [bs[i].1]).length = acc.length + 1 := by rw [List.length_append]; rfl
                  obtain ⟨mc7, ms7, c7, g7, hF7w, hA7, hc71, hc72, hc73, hU7⟩ := app_any l G w2 hD8 (by omega) ((bs[j]).1)
                  have hU7 := hU7 _ _ hU80
                  have hU70 := hU7
                  unfold Use at hU7
                  refine gn_v (runV C0 (hA7) (cs_B_85 C0 ⟨Nat.le_of_ble_eq_true rfl, Nat.le_of_ble_eq_true rfl⟩) hH hS (hd_recv C0.hK hH rfl hB8) rfl hl.1 rfl (lv_room (Nat.le_of_ble_eq_true rfl)) d_B_pairs_93 ⟨by show _ ≤ 260; omega, by show _ ≤ 12300; omega⟩) hS (fun w3 H locs hp3 hH hS => ?_)
                  obtain ⟨F7, hF7, hD7, hK7⟩ := hD8.app h08 hF7w hp3 hc71 hc72 hc73
                  have hU7 := hU70
                  have hF78 : F7 = F9 ∨ w9 F7 = none := hF7.elim (fun q => by rw [q]; exact hF8) (fun q => (kp_none hK8 hB9 q hB8 hF7w hF8).symm)
                  have hK78 : Kp w9 w3 [x, F9] := hK8.trans hK7 (fun b hb => by
                    rcases List.mem_cons.mp hb with q | q
                    · exact Or.inl (by simp [q])
                    · rw [List.mem_singleton.mp q]; exact hF8.imp (fun h => by simp [h]) id)
                  obtain ⟨y_5, ey_5⟩ : ∃ z : Int32, z = (nI ps.length) + 1 := ⟨_, rfl⟩
                  refine lv_iinc (v := y_5) (lv' := [(1, .int y_5), (5, .ref xj), (0, .ref x), (2, .int (nI i)), (3, .ref xi), (4, .int (nI j))]) hx hb d_B_pairs_96 hl (k := 2) rfl (by rw [ey_5]; rfl) (by decide) rfl (fun ls hl => ?_)
                  obtain ⟨y_6, ey_6⟩ : ∃ z : Int32, z = (nI j) + 1 := ⟨_, rfl⟩
                  refine lv_iinc (v := y_6) (lv' := [(4, .int y_6), (1, .int y_5), (5, .ref xj), (0, .ref x), (2, .int (nI i)), (3, .ref xi)]) hx hb d_B_pairs_99 hl (k := 5) rfl (by rw [ey_6]; rfl) (by decide) rfl (fun ls hl => ?_)
                  refine lv_goto (tgt := 37) hx hb d_B_pairs_102 (by decide) ?_
                  rw [show y_6 = nI (j + 1) from by rw [ey_6]; exact nI_1 j] at hl
                  rw [show y_5 = nI (ps ++ [(bs[i].1, bs[j].1)]).length from by rw [ey_5, List.length_append]; exact nI_1 _] at hl
                  refine ih (j + 1) (by omega) w3 F7 _ _ _ _ (ps ++ [(bs[i].1, bs[j].1)]) H locs hH hS hD7 (hK9.trans hK78 (fun b hb => ?_)) (hF78.elim (fun q => by rw [q]; exact hFf) (fun q => (kp_none hK9 hB q hB9 hF9 hFf).symm)) hU7 (by rw [hac]; exact (flt_lt hlt9 _ _).symm) (by rw [List.length_append]; have : [(bs[i].1, bs[j].1)].length = 1 := rfl; omega) (hK78 _ _ hxi (m2 (wne hxi hB9 (by simp)) (wne hxi hF9 (by simp)))) (by rw [← hpe, List.drop_eq_getElem_cons (i := j) hjl, prI, if_neg c_69]; simp) ls (lv_sub hl [3, 1, 4, 5, 0] rfl)
                  rcases List.mem_cons.mp hb with q | q
                  · exact Or.inl (by simp [q])
                  · rw [List.mem_singleton.mp q]; exact hFf.imp (fun h => by simp [h]) id
        rw [show nI i + 1 = nI (i + 1) from nI_1 i] at hl
        exact loopI (bs.length - (i + 1)) (i + 1) (by omega) w9 F9 cF9 ce sl acc ps H locs hH hS hD9 hK9 hFf hU0 hac (by omega) h_xi (by rw [← hpe, List.drop_eq_getElem_cons hil, prs, List.append_assoc]) ls (lv_sub hl [2, 3, 4, 1, 0] rfl)
  exact loopO bs.length 0 (by omega) w1 F cF _ _ [] [] H locs hH hS hD3 hK3 (Or.inl rfl) (by unfold Use; omega) rfl (Nat.le_refl _) rfl ls (lv_sub hl [2, 1, 0] rfl)
