/-! find -/
def okF (k : Int32) : Prop := 0 ≤ k ∧ k ≤ 2
/-- what a growing row has used -/
def Use (cF ce sl : Nat) : Prop := (cF < 4096 ∧ 16 * ce ≤ 16 + cF ∧ sl ≤ 5 + 2 * cF) ∨ (cF = 4096 ∧ ce ≤ 258 ∧ sl ≤ 12295)
noncomputable def fnd (k : Int32) (q : Bx) : List Bx → List Int32
  | [] => []
  | b :: t => if b01 (fitsP k b q) = 0 then fnd k q t else b.1 :: fnd k q t
theorem m2 {a b c : Nat} (h1 : a ≠ b) (h2 : a ≠ c) : a ∉ [b, c] := fun h => by
  rcases List.mem_cons.mp h with h | h
  · exact h1 h
  · exact h2 (List.mem_singleton.mp h)
theorem LsAt.two {G : Gl} {w w1 : World} {x L E N F : Nat} {f : Nat → Option Nat} {md : Int32} {bs : List Bx} {e : List Value} {g : vp_A} {c : ClassId} (h : LsAt G w L E N f md bs) (h0 : w (ge0 G) = none) (hx : w x = some (.inr (2, e))) (hF : w F = some (.inl (c, g))) (hg : ∀ (n : Nat) (f : Nat → Option Nat), g ≠ (n, .inr (.inr (.inr (.inr f))))) (hK : Kp w w1 [x, F]) : LsAt G w1 L E N f md bs := by
  refine ⟨hK _ _ h.1 (m2 (wne h.1 hx (by simp)) (wne h.1 hF (by simp))), h.2.1, h.2.2.1, h.2.2.2.1.imp id (fun q => hK _ _ q (m2 (h.nE h0 hx).symm (h.nA (n := 0) h0 hF hg).symm)), fun i hi => ?_⟩
  obtain ⟨y, a, b⟩ := h.2.2.2.2 i hi
  exact ⟨y, a, hK _ _ b (m2 (wne b hx (by simp)) (wne b hF (by simp)))⟩
theorem DAt.app {G : Gl} {w w1 : World} {x L E F Gd cF c1 : Nat} {bs : List Bx} {rs : List Int32} {v : Int32} {g : Nat → Int32} (h : DAt G w x L E F Gd bs rs cF) (h0 : w (ge0 G) = none) (hF : w F = some (.inl (G.2.1.1, cF, .inl g))) (hA : AppQ G w w1 x L F Gd rs.length c1 v g) (h1 : rs.length + 1 ≤ c1) (h2 : 16 ≤ c1) (h3 : c1 ≤ 4096) : ∃ F1 : Nat, (F1 = F ∨ w F1 = none) ∧ DAt G w1 x L E F1 Gd bs (rs ++ [v]) c1 ∧ Kp w w1 [x, F] := by
  obtain ⟨hB, ⟨N, f, md, hLs, hN0⟩, ⟨g0, hF0, hg⟩, ⟨cG, d, hGd, hcG⟩, hc⟩ := h
  have e0 : g0 = g := by
    have := hF0.symm.trans hF
    simpa using this
  subst e0
  obtain ⟨F1, g1, a1, a2, a3, a4, a5, a6⟩ := hA
  refine ⟨F1, a1, ⟨?_, ⟨N, f, md, hLs.two h0 hB hF (fun _ _ => by simp) a6, hN0⟩, ⟨g1, a2, fun i hi => ?_⟩, ⟨cG, d, a6 _ _ hGd (m2 (wne hGd hB (by simp)) (wne hGd hF (by simp))), hcG⟩, ?_, h2, h3⟩, a6⟩
  · rw [List.length_append]; exact a5
  · rw [List.length_append] at hi
    by_cases q : i < rs.length
    · rw [List.getElem_append_left q, a3 i q]; exact hg i q
    · have : i = rs.length := by have : [v].length = 1 := rfl; omega
      subst this
      rw [a4]; simp
  · rw [List.length_append]; exact h1
theorem DAt.res0 {G : Gl} {w w1 : World} {x L E F Gd cF : Nat} {bs : List Bx} {rs : List Int32} (h : DAt G w x L E F Gd bs rs cF) (h0 : w (ge0 G) = none) (hA : w1 = va_up w x (some (.inr (2, [.ref L, .ref F, .int 0, .ref Gd])))) : DAt G w1 x L E F Gd bs [] cF ∧ Kp w w1 [x, F] := by
  obtain ⟨hB, ⟨N, f, md, hLs, hN0⟩, ⟨g, hF, hg⟩, ⟨cG, d, hGd, hcG⟩, hc⟩ := h
  have hK : Kp w w1 [x, F] := by rw [hA]; exact Kp.up (Or.inl (by simp))
  refine ⟨⟨?_, ⟨N, f, md, hLs.two h0 hB hF (fun _ _ => by simp) hK, hN0⟩, ⟨g, ?_, fun i hi => absurd hi (Nat.not_lt_zero _)⟩, ⟨cG, d, hK _ _ hGd (m2 (wne hGd hB (by simp)) (wne hGd hF (by simp))), hcG⟩, Nat.zero_le _, hc.2⟩, hK⟩
  · rw [hA]; exact va_up_self _ _ _
  · rw [hA, va_up_ne _ _ (wne hF hB (by simp))]; exact hF

theorem kp_none {w w9 : World} {x F F9 F8 : Nat} {e e9 f9 : va_E} (hK : Kp w w9 [x, F]) (hB : w x = some e) (h : w9 F8 = none) (hB9 : w9 x = some e9) (hF9 : w9 F9 = some f9) (hFf : F9 = F ∨ w F9 = none) : w F8 = none ∨ F8 = F := by
  cases q : w F8 with
  | none => exact Or.inl rfl
  | some z =>
    refine Or.inr (Classical.byContradiction (fun hn => ?_))
    have hx : F8 ≠ x := fun q2 => by rw [q2, hB9] at h; cases h
    rw [hK _ _ q (m2 hx hn)] at h
    cases h

set_option maxHeartbeats 4000000 in
set_option maxRecDepth 100000 in
theorem k_B_find (l : Launch) (G : Gl) (w : World) {x L E F Gd cF : Nat} {bs : List Bx} {rs : List Int32} (hD : DAt G w x L E F Gd bs rs cF) (k lx ly hx1 hy1 : Int32) (hk9 : okF k) (hb9 : okB lx ly hx1 hy1) (hln : bs.length ≤ 4096) :
    GnI l y_B_find ws_B_find 6 260 12300 G w [.ref x, .int k, .int lx, .int ly, .int hx1, .int hy1] (fun r w1 => r = nI (fnd k ((-1 : Int32), lx, ly, hx1, hy1) bs).length ∧ DQ G w w1 x L E F Gd bs (fnd k ((-1 : Int32), lx, ly, hx1, hy1) bs) (fun _ => True)) := by
  refine met_ent (by decide +kernel) (Nat.le_of_ble_eq_true rfl) (fun p e s m below meth c ls C0 hr hin hH hl => ?_)
  have hx := C0.1
  have hb := C0.2.1
  have hS : va_S (gA G) s.heap s.heap [] := va_S.rf
  have hA : ∀ q : Nat, s.heap.size ≤ q → gA G q := fun q h => Nat.le_trans C0.ev.2.2.2.2.2.2.2.2.2.2.2.2 h
  have hl : lv_has ls 9 [(0, .ref x), (1, .int k), (2, .int lx), (3, .int ly), (4, .int hx1), (5, .int hy1)] := hl
  obtain ⟨hB, ⟨N, f, md, hLs, hN0⟩, ⟨g, hF, hg⟩, ⟨cG, d, hGd, hcG⟩, hc1, hc2, hc3⟩ := id hD
  obtain ⟨hL1, hL2, hL3, hL4, hL5⟩ := id hLs
  refine lv_iload_n hx hb d_B_find_0 rfl (lv_at hl 2 rfl) ?_
  refine lv_iload_n hx hb d_B_find_1 rfl (lv_at hl 3 rfl) ?_
  refine lv_iload hx hb d_B_find_2 (lv_at hl 4 rfl) ?_
  refine lv_iload hx hb d_B_find_4 (lv_at hl 5 rfl) ?_
  refine pu_n (runS C0 (k_B_requireBounds l G w lx ly hx1 hy1 hb9) (cs_B_32 C0 ⟨Nat.le_of_ble_eq_true rfl, Nat.le_of_ble_eq_true rfl⟩) hH hS rfl hl.1 rfl (lv_room (Nat.le_of_ble_eq_true rfl)) d_B_find_6 ⟨by show _ ≤ 260; omega, by show _ ≤ 12300; omega⟩) ?_
  refine lv_iload_n hx hb d_B_find_9 rfl (lv_at hl 1 rfl) ?_
  refine lv_if_lt (tgt := 18) hx hb d_B_find_10 (by decide) (fun c_10 => ?_) (fun c_10 => ?_)
  · exact absurd hk9 (by unfold okF; revert c_10; simp only [Int32.le_iff_toInt_le, Int32.lt_iff_toInt_lt, tI9, tIm9, tI4096, tI3, tI2, tI1, tI0]; omega)
  · refine lv_iload_n hx hb d_B_find_13 rfl (lv_at hl 1 rfl) ?_
    refine lv_iconst (v := 2) hx hb d_B_find_14 (by decide) ?_
    refine lv_icmp_le (tgt := 28) hx hb d_B_find_15 (by decide) (fun c_15 => ?_) (fun c_15 => ?_)
    · refine hd_new (ci := 1) (fs := [.int 0, .int 0, .int 0, .int 0, .int 0]) hx hb C0.2.2.2.2.1 in_X tyX tyX_ok C0.2.2.2.1 (C0.2.2.2.2.1 _ mw_104) (C0.2.2.2.2.1 _ mw_108) (C0.2.2.2.2.1 _ mw_11) C0.hK hH hS hA rfl (fun j hj => by rcases (show j = 0 ∨ j = 1 ∨ j = 2 ∨ j = 3 ∨ j = 4 by omega) with rfl | rfl | rfl | rfl | rfl <;> rfl) (by show _ ≤ 260; omega) (by show _ ≤ 12300; omega) d_B_find_28 (fun q28 H hnq28 hH hS => ?_)
      obtain ⟨w1, ew1⟩ : ∃ z : World, z = va_up w q28 (some (.inr (1, [.int 0, .int 0, .int 0, .int 0, .int 0]))) := ⟨_, rfl⟩
      have hH : Hw G w1 H := by rw [ew1]; exact hH
      have hw1_x : w1 x = some (.inr (2, [.ref L, .ref F, .int (nI rs.length), .ref Gd])) := by rw [ew1, va_up_ne _ _ (wnf hB hnq28)]; exact hB
      have hw1_q28 : w1 q28 = some (.inr (1, [.int 0, .int 0, .int 0, .int 0, .int 0])) := by rw [ew1]; exact va_up_self _ _ _
      refine lv_dup hx hb d_B_find_31 rfl ?_
      refine lv_iconst (v := (-1)) hx hb d_B_find_32 (by decide) ?_
      refine lv_iload_n hx hb d_B_find_33 rfl (lv_at hl 2 rfl) ?_
      refine lv_iload_n hx hb d_B_find_34 rfl (lv_at hl 3 rfl) ?_
      refine lv_iload hx hb d_B_find_35 (lv_at hl 4 rfl) ?_
      refine lv_iload hx hb d_B_find_37 (lv_at hl 5 rfl) ?_
      refine gn_v (runIN C0 (k_X_init l G w1 (-1) lx ly hx1 hy1 hw1_q28) (cs_B_38 C0 ⟨Nat.le_of_ble_eq_true rfl, Nat.le_of_ble_eq_true rfl⟩) hH hS rfl hl.1 rfl (lv_room (Nat.le_of_ble_eq_true rfl)) d_B_find_39 ⟨by show _ ≤ 260; omega, by show _ ≤ 12300; omega⟩) hS (fun w2 H locs hp2 hH hS => ?_)
      have ew2 := hp2
      have hw2_q28 : w2 q28 = some (.inr (1, bxf ((-1 : Int32), lx, ly, hx1, hy1))) := by rw [ew2]; exact va_up_self _ _ _
      have hK2 : Kp w w2 [] := by rw [ew2, ew1]; exact (Kp.up (Or.inr hnq28)).ups (Or.inr hnq28)
      have hD2 := hD.mono hK2
      have hB2 := hD2.1
      have h02 := ge0_none C0 hH
      refine lv_astore (lv' := [(6, .ref q28), (0, .ref x), (1, .int k), (2, .int lx), (3, .int ly), (4, .int hx1), (5, .int hy1)]) hx hb d_B_find_42 hl (by decide) rfl (fun ls hl => ?_)
      refine lv_aload_n hx hb d_B_find_44 rfl (lv_at hl 1 rfl) ?_
      refine lv_iconst (v := 0) hx hb d_B_find_45 (by decide) ?_
      refine pf_B_20 C0 hH hS hB2 rfl rfl (Nat.le_of_ble_eq_true rfl) d_B_find_46 (fun H locs hH hS => ?_)
      obtain ⟨w3, ew3⟩ : ∃ z : World, z = va_up w2 x (some (.inr (2, [.ref L, .ref F, .int 0, .ref Gd]))) := ⟨_, rfl⟩
      have hH : Hw G w3 H := by rw [ew3]; exact hH
      have hw3_q28 : w3 q28 = some (.inr (1, [.int (-1), .int lx, .int ly, .int hx1, .int hy1])) := by rw [ew3, va_up_ne _ _ ((wnf hB hnq28).symm)]; exact hw2_q28
      have hw3_x : w3 x = some (.inr (2, [.ref L, .ref F, .int 0, .ref Gd])) := by rw [ew3]; exact va_up_self _ _ _
      refine lv_iconst (v := 0) hx hb d_B_find_49 (by decide) ?_
      refine lv_istore (lv' := [(7, .int 0), (6, .ref q28), (0, .ref x), (1, .int k), (2, .int lx), (3, .int ly), (4, .int hx1), (5, .int hy1)]) hx hb d_B_find_50 hl (by decide) rfl (fun ls hl => ?_)
      obtain ⟨hD3, hK3⟩ := DAt.res0 hD2 h02 ew3
      have loop : ∀ (u j : Nat), j + u = bs.length → ∀ (w9 : World) (F9 cF9 ce sl : Nat) (acc : List Int32) (H : Heap) (locs : List Loc), Hw G w9 H → va_S (gA G) s.heap H locs → DAt G w9 x L E F9 Gd bs acc cF9 → w9 q28 = some (.inr (1, bxf ((-1 : Int32), lx, ly, hx1, hy1))) → Kp w w9 [x, F] → (F9 = F ∨ w F9 = none) → Use cF9 ce sl → acc.length ≤ j → acc ++ fnd k ((-1 : Int32), lx, ly, hx1, hy1) (bs.drop j) = fnd k ((-1 : Int32), lx, ly, hx1, hy1) bs → ∀ ls : Array Slot, lv_has ls 9 [(0, .ref x), (1, .int k), (6, .ref q28), (7, .int (nI j))] → W p l e (rmK 6 260 12300) s m [.ref x, .int k, .int lx, .int ly, .int hx1, .int hy1].toArray below meth c H locs ce sl (MQ below (va_Qi (fun r w1 => r = nI (fnd k ((-1 : Int32), lx, ly, hx1, hy1) bs).length ∧ DQ G w w1 x L E F Gd bs (fnd k ((-1 : Int32), lx, ly, hx1, hy1) bs) (fun _ => True)) (Wo G) (gA G)) [.ref x, .int k, .int lx, .int ly, .int hx1, .int hy1].toArray s 260 12300 (gA G)) (F0 m 52 ls []) := by
        intro u
        induction u with
        | zero =>
          intro j hj w9 F9 cF9 ce sl acc H locs hH hS hD9 hq9 hK9 hFf hU hac hac2 ls hl
          unfold Use at hU
          obtain ⟨hB9, ⟨N9, f9, md9, hLs9, hN9⟩, ⟨g9, hF9, hg9⟩, ⟨cG9, d9, hGd9, hcG9⟩, hc19, hc29, hc39⟩ := id hD9
          obtain ⟨hL19, hL29, hL39, hL49, hL59⟩ := id hLs9
          have h09 := ge0_none C0 hH
          refine lv_iload hx hb d_B_find_52 (lv_at hl 3 rfl) ?_
          refine lv_aload_n hx hb d_B_find_54 rfl (lv_at hl 0 rfl) ?_
          refine gf_B_10 C0 hH hB9 rfl d_B_find_55 ?_
          refine pu_v (runV C0 (k_A_size l G w9 hL19) (cs_B_61 C0 ⟨Nat.le_of_ble_eq_true rfl, Nat.le_of_ble_eq_true rfl⟩) hH hS (hd_recv C0.hK hH rfl hL19) rfl hl.1 rfl (lv_room (Nat.le_of_ble_eq_true rfl)) d_B_find_58 ⟨by show _ ≤ 260; omega, by show _ ≤ 12300; omega⟩) ?_
          refine lv_icmp_ge (tgt := 104) hx hb d_B_find_61 (by decide) (fun c_61 => ?_) (fun c_61 => ?_)
          · have hfin : acc = fnd k ((-1 : Int32), lx, ly, hx1, hy1) bs := by rw [← hac2, List.drop_eq_nil_of_le (by omega), fnd, List.append_nil]
            refine lv_aload_n hx hb d_B_find_104 rfl (lv_at hl 0 rfl) ?_
            refine gf_B_20 C0 hH hB9 rfl d_B_find_105 ?_
            refine W.widen (k := 260) (n := 12300) (by omega) (by omega) ?_
            exact W.iret hx hb hr (fun t ht hW => ⟨⟨(nI acc.length), w9, rfl, ⟨by rw [hfin], by rw [← hfin]; exact ⟨E, F9, Gd, cF9, Or.inl rfl, hFf, Or.inl rfl, hD9, hK9.mono (fun b hb => Or.inl (by rcases List.mem_cons.mp hb with q | q; (· simp [q]); (· simp [List.mem_singleton.mp q]))), trivial⟩⟩, Wo.at C0.ev hH hS ht hW⟩, hS.F ht⟩) hS.2.2 d_B_find_108 (hlocks := C0.2.2.2.2.2.2)
          · exact absurd (nI_le (show bs.length ≤ j by omega) (by omega)) c_61
        | succ u ih =>
          intro j hj w9 F9 cF9 ce sl acc H locs hH hS hD9 hq9 hK9 hFf hU hac hac2 ls hl
          unfold Use at hU
          obtain ⟨hB9, ⟨N9, f9, md9, hLs9, hN9⟩, ⟨g9, hF9, hg9⟩, ⟨cG9, d9, hGd9, hcG9⟩, hc19, hc29, hc39⟩ := id hD9
          obtain ⟨hL19, hL29, hL39, hL49, hL59⟩ := id hLs9
          have h09 := ge0_none C0 hH
          refine lv_iload hx hb d_B_find_52 (lv_at hl 3 rfl) ?_
          refine lv_aload_n hx hb d_B_find_54 rfl (lv_at hl 0 rfl) ?_
          refine gf_B_10 C0 hH hB9 rfl d_B_find_55 ?_
          refine pu_v (runV C0 (k_A_size l G w9 hL19) (cs_B_61 C0 ⟨Nat.le_of_ble_eq_true rfl, Nat.le_of_ble_eq_true rfl⟩) hH hS (hd_recv C0.hK hH rfl hL19) rfl hl.1 rfl (lv_room (Nat.le_of_ble_eq_true rfl)) d_B_find_58 ⟨by show _ ≤ 260; omega, by show _ ≤ 12300; omega⟩) ?_
          refine lv_icmp_ge (tgt := 104) hx hb d_B_find_61 (by decide) (fun c_61 => ?_) (fun c_61 => ?_)
          · exact absurd c_61 (Int32.not_le.mpr (nI_lt (show j < bs.length by omega) (by omega)))
          · have hjl : j < bs.length := by omega
            refine lv_aload_n hx hb d_B_find_64 rfl (lv_at hl 0 rfl) ?_
            refine gf_B_10 C0 hH hB9 rfl d_B_find_65 ?_
            refine lv_iload hx hb d_B_find_68 (lv_at hl 3 rfl) ?_
            obtain ⟨xj, hf_xj, h_xj⟩ := hL59 j (hjl)
            refine pu_v (runV C0 (k_A_get l G w9 hL19 (hLs9.arr (by omega)) (i := j) (by omega) hL29 (by omega) hf_xj) (cs_B_75 C0 ⟨Nat.le_of_ble_eq_true rfl, Nat.le_of_ble_eq_true rfl⟩) hH hS (hd_recv C0.hK hH rfl hL19) rfl hl.1 rfl (lv_room (Nat.le_of_ble_eq_true rfl)) d_B_find_70 ⟨by show _ ≤ 260; omega, by show _ ≤ 12300; omega⟩) ?_
            refine va_castY hx hb C0.2.2.2.1 (C0.2.2.2.2.1 _ mw_104) (C0.ev.2.2.2.2.2.2.1 (Cond.castable "BoxDrawer$Box" "BoxDrawer$Box") (by decide +kernel)) (hd_recv C0.hK hH rfl h_xj) d_B_find_73 ?_
            refine lv_astore (lv' := [(8, .ref xj), (0, .ref x), (1, .int k), (6, .ref q28), (7, .int (nI j))]) hx hb d_B_find_76 hl (by decide) rfl (fun ls hl => ?_)
            refine lv_iload_n hx hb d_B_find_78 rfl (lv_at hl 2 rfl) ?_
            refine lv_aload hx hb d_B_find_79 (lv_at hl 0 rfl) ?_
            refine lv_aload hx hb d_B_find_81 (lv_at hl 3 rfl) ?_
            refine pu_v (runS C0 (k_B_fits l G w9 k h_xj hq9) (cs_B_78 C0 ⟨Nat.le_of_ble_eq_true rfl, Nat.le_of_ble_eq_true rfl⟩) hH hS rfl hl.1 rfl (lv_room (Nat.le_of_ble_eq_true rfl)) d_B_find_83 ⟨by show _ ≤ 260; omega, by show _ ≤ 12300; omega⟩) ?_
            refine lv_if_eq (tgt := 98) hx hb d_B_find_86 (by decide) (fun c_86 => ?_) (fun c_86 => ?_)
            · obtain ⟨y_1, ey_1⟩ : ∃ z : Int32, z = (nI j) + 1 := ⟨_, rfl⟩
              refine lv_iinc (v := y_1) (lv' := [(7, .int y_1), (8, .ref xj), (0, .ref x), (1, .int k), (6, .ref q28)]) hx hb d_B_find_98 hl (k := 4) rfl (by rw [ey_1]; rfl) (by decide) rfl (fun ls hl => ?_)
              refine lv_goto (tgt := 52) hx hb d_B_find_101 (by decide) ?_
              rw [show y_1 = nI (j + 1) from by rw [ey_1]; exact nI_1 j] at hl
              exact ih (j + 1) (by omega) w9 F9 cF9 ce sl acc H locs hH hS hD9 hq9 hK9 hFf hU (by omega) (by rw [← hac2, List.drop_eq_getElem_cons hjl, fnd, if_pos c_86]) ls (lv_sub hl [2, 3, 4, 0] rfl)
            · refine lv_aload_n hx hb d_B_find_89 rfl (lv_at hl 1 rfl) ?_
              refine lv_aload hx hb d_B_find_90 (lv_at hl 0 rfl) ?_
              refine gf_B_82 C0 hH h_xj rfl d_B_find_92 ?_
              by_cases hrm : acc.length < cF9
              · refine gn_v (runV C0 (k_B_append0 l G w9 hB9 hF9 ((bs[j]).1) hrm hc39) (cs_B_85 C0 ⟨Nat.le_of_ble_eq_true rfl, Nat.le_of_ble_eq_true rfl⟩) hH hS (hd_recv C0.hK hH rfl hB9) rfl hl.1 rfl (lv_room (Nat.le_of_ble_eq_true rfl)) d_B_find_95 ⟨by show _ ≤ 260; omega, by show _ ≤ 12300; omega⟩) hS (fun w4 H locs hp4 hH hS => ?_)
                obtain ⟨F8, hF8, hD8, hK8⟩ := hD9.app h09 hF9 hp4 (by omega) (by omega) (by omega)
                obtain ⟨y_2, ey_2⟩ : ∃ z : Int32, z = (nI j) + 1 := ⟨_, rfl⟩
                refine lv_iinc (v := y_2) (lv' := [(7, .int y_2), (8, .ref xj), (0, .ref x), (1, .int k), (6, .ref q28)]) hx hb d_B_find_98 hl (k := 4) rfl (by rw [ey_2]; rfl) (by decide) rfl (fun ls hl => ?_)
                refine lv_goto (tgt := 52) hx hb d_B_find_101 (by decide) ?_
                rw [show y_2 = nI (j + 1) from by rw [ey_2]; exact nI_1 j] at hl
                refine ih (j + 1) (by omega) w4 F8 _ _ _ (acc ++ [bs[j].1]) H locs hH hS hD8 (hK8 _ _ hq9 (m2 (wne hq9 hB9 (by simp)) (wne hq9 hF9 (by simp)))) (hK9.trans hK8 (fun b hb => ?_)) (hF8.elim (fun q => by rw [q]; exact hFf) (fun q => ?_)) (by unfold Use; omega) (by rw [List.length_append]; exact Nat.succ_le_succ hac) (?_) ls (lv_sub hl [2, 3, 4, 0] rfl)
                · rcases List.mem_cons.mp hb with q | q
                  · exact Or.inl (by simp [q])
                  · rw [List.mem_singleton.mp q]; exact hFf.imp (fun h => by simp [h]) id
                · exact (kp_none hK9 hB q hB9 hF9 hFf).symm
                · rw [← hac2, List.drop_eq_getElem_cons hjl, fnd, if_neg c_86, List.append_assoc]; rfl
              · obtain ⟨c1, hc1⟩ : ∃ z : Nat, z = min (2 * cF9) 4096 := ⟨_, rfl⟩
                refine gn_v (runV C0 (k_B_append1 l G w9 hB9 hF9 ((bs[j]).1) c1 (by omega) (by omega) (by omega) hc1) (cs_B_85 C0 ⟨Nat.le_of_ble_eq_true rfl, Nat.le_of_ble_eq_true rfl⟩) hH hS (hd_recv C0.hK hH rfl hB9) rfl hl.1 rfl (lv_room (Nat.le_of_ble_eq_true rfl)) d_B_find_95 ⟨by show _ ≤ 260; omega, by show _ ≤ 12300; omega⟩) hS (fun w5 H locs hp5 hH hS => ?_)
                obtain ⟨F8, hF8, hD8, hK8⟩ := hD9.app h09 hF9 hp5 (by omega) (by omega) (by omega)
                obtain ⟨y_3, ey_3⟩ : ∃ z : Int32, z = (nI j) + 1 := ⟨_, rfl⟩
                refine lv_iinc (v := y_3) (lv' := [(7, .int y_3), (8, .ref xj), (0, .ref x), (1, .int k), (6, .ref q28)]) hx hb d_B_find_98 hl (k := 4) rfl (by rw [ey_3]; rfl) (by decide) rfl (fun ls hl => ?_)
                refine lv_goto (tgt := 52) hx hb d_B_find_101 (by decide) ?_
                rw [show y_3 = nI (j + 1) from by rw [ey_3]; exact nI_1 j] at hl
                refine ih (j + 1) (by omega) w5 F8 _ _ _ (acc ++ [bs[j].1]) H locs hH hS hD8 (hK8 _ _ hq9 (m2 (wne hq9 hB9 (by simp)) (wne hq9 hF9 (by simp)))) (hK9.trans hK8 (fun b hb => ?_)) (hF8.elim (fun q => by rw [q]; exact hFf) (fun q => ?_)) (by unfold Use; omega) (by rw [List.length_append]; exact Nat.succ_le_succ hac) (?_) ls (lv_sub hl [2, 3, 4, 0] rfl)
                · rcases List.mem_cons.mp hb with q | q
                  · exact Or.inl (by simp [q])
                  · rw [List.mem_singleton.mp q]; exact hFf.imp (fun h => by simp [h]) id
                · exact (kp_none hK9 hB q hB9 hF9 hFf).symm
                · rw [← hac2, List.drop_eq_getElem_cons hjl, fnd, if_neg c_86, List.append_assoc]; rfl
      exact loop bs.length 0 (by omega) w3 F cF _ _ [] H locs hH hS hD3 hw3_q28 ((hK2.mono (fun b hb => by cases hb)).trans hK3 (fun b hb => Or.inl hb)) (Or.inl rfl) (by unfold Use; omega) (Nat.le_refl _) rfl ls (lv_sub hl [2, 3, 1, 0] rfl)
    · exact absurd hk9 (by unfold okF; revert c_15 c_10; simp only [Int32.le_iff_toInt_le, Int32.lt_iff_toInt_lt, tI9, tIm9, tI4096, tI3, tI2, tI1, tI0]; omega)

set_option maxHeartbeats 4000000 in
set_option maxRecDepth 100000 in
theorem t_B_find0 (l : Launch) (hlt : l.stackTraces = false) (G : Gl) (w : World) {x : Nat} (k lx ly hx1 hy1 : Int32) (h : ¬ okB lx ly hx1 hy1) :
    ThM l y_B_find ws_B_find 8 G w [.ref x, .int k, .int lx, .int ly, .int hx1, .int hy1] "java/lang/IllegalArgumentException" := by
  refine th_ent (by decide +kernel) (Nat.le_of_ble_eq_true rfl) (fun p e s m below meth c ls C0 ht hH hl => ?_)
  have hx := C0.1
  have hb := C0.2.1
  have hS : va_S (gA G) s.heap s.heap [] := va_S.rf
  have hl : lv_has ls 9 [(0, .ref x), (1, .int k), (2, .int lx), (3, .int ly), (4, .int hx1), (5, .int hy1)] := hl
  refine lv_iload_n hx hb d_B_find_0 rfl (lv_at hl 2 rfl) ?_
  refine lv_iload_n hx hb d_B_find_1 rfl (lv_at hl 3 rfl) ?_
  refine lv_iload hx hb d_B_find_2 (lv_at hl 4 rfl) ?_
  refine lv_iload hx hb d_B_find_4 (lv_at hl 5 rfl) ?_
  exact th_out ht C0.2.2.2.2.2.2 (xrunS C0 (t_B_requireBounds l hlt G w lx ly hx1 hy1 h) (cs_B_32 C0 ⟨by decide, by decide⟩) hH hS rfl hl.1 rfl (lv_room (Nat.le_of_ble_eq_true rfl)) d_B_find_6 ⟨Nat.le_refl _, Nat.le_refl _⟩)

set_option maxHeartbeats 4000000 in
set_option maxRecDepth 100000 in
theorem t_B_find1 (l : Launch) (hlt : l.stackTraces = false) (G : Gl) (w : World) {x : Nat} (k lx ly hx1 hy1 : Int32) (hb9 : okB lx ly hx1 hy1) (h : ¬ okF k) :
    ThM l y_B_find ws_B_find 8 G w [.ref x, .int k, .int lx, .int ly, .int hx1, .int hy1] "java/lang/IllegalArgumentException" := by
  refine th_ent (by decide +kernel) (Nat.le_of_ble_eq_true rfl) (fun p e s m below meth c ls C0 ht hH hl => ?_)
  have hx := C0.1
  have hb := C0.2.1
  have hS : va_S (gA G) s.heap s.heap [] := va_S.rf
  have hl : lv_has ls 9 [(0, .ref x), (1, .int k), (2, .int lx), (3, .int ly), (4, .int hx1), (5, .int hy1)] := hl
  refine lv_iload_n hx hb d_B_find_0 rfl (lv_at hl 2 rfl) ?_
  refine lv_iload_n hx hb d_B_find_1 rfl (lv_at hl 3 rfl) ?_
  refine lv_iload hx hb d_B_find_2 (lv_at hl 4 rfl) ?_
  refine lv_iload hx hb d_B_find_4 (lv_at hl 5 rfl) ?_
  refine pu_n (runS C0 (k_B_requireBounds l G w lx ly hx1 hy1 hb9) (cs_B_32 C0 ⟨Nat.le_of_ble_eq_true rfl, Nat.le_of_ble_eq_true rfl⟩) hH hS rfl hl.1 rfl (lv_room (Nat.le_of_ble_eq_true rfl)) d_B_find_6 ⟨Nat.zero_le _, Nat.zero_le _⟩) ?_
  refine lv_iload_n hx hb d_B_find_9 rfl (lv_at hl 1 rfl) ?_
  refine lv_if_lt (tgt := 18) hx hb d_B_find_10 (by decide) (fun c_10 => ?_) (fun c_10 => ?_)
  · exact th_throw (text := "what is none of 0, 1, 2") hlt C0 (by decide +kernel) mw_230 mw_10 at_ia og_ia (by decide +kernel) hl.1 d_B_find_18 d_B_find_21 d_B_find_22 d_B_find_24 d_B_find_27 ht (by decide)
  · refine lv_iload_n hx hb d_B_find_13 rfl (lv_at hl 1 rfl) ?_
    refine lv_iconst (v := 2) hx hb d_B_find_14 (by decide) ?_
    refine lv_icmp_le (tgt := 28) hx hb d_B_find_15 (by decide) (fun c_15 => ?_) (fun c_15 => ?_)
    · exact absurd (by unfold okF; revert c_15 c_10; simp only [Int32.le_iff_toInt_le, Int32.lt_iff_toInt_lt, tI9, tIm9, tI4096, tI3, tI2, tI1, tI0]; omega) h
    · exact th_throw (text := "what is none of 0, 1, 2") hlt C0 (by decide +kernel) mw_230 mw_10 at_ia og_ia (by decide +kernel) hl.1 d_B_find_18 d_B_find_21 d_B_find_22 d_B_find_24 d_B_find_27 ht (by decide)
