/-! the model's pairs, nearest -/
theorem bMeets_comm (a b : Bx) : bMeets a b = bMeets b a := propext ⟨fun ⟨h1, h2, h3, h4⟩ => ⟨h2, h1, h4, h3⟩, fun ⟨h1, h2, h3, h4⟩ => ⟨h2, h1, h4, h3⟩⟩
def bhd (px py : Int32) (last : Int64) (lb : Int32) (b : Bx) : Prop := last < bDst b px py ∨ (bDst b px py = last ∧ lb < b.1)
noncomputable def scN (px py : Int32) (last : Int64) (lb : Int32) (o : Option (Int32 × Int64)) (bs : List Bx) : Option (Int32 × Int64) :=
  bs.foldl (fun o b => if b01 (bhd px py last lb b) = 0 then o else match o with | none => some (b.1, bDst b px py) | some p => if bDst b px py < p.2 then some (b.1, bDst b px py) else some p) o
noncomputable def nM (px py : Int32) (bs : List Bx) : Nat → Int64 → Int32 → List (Int32 × Int64)
  | 0, _, _ => []
  | n + 1, last, lb => match scN px py last lb none bs with | none => [] | some p => p :: nM px py bs n p.2 p.1
def NbS (bi : Int32) (le : Int64) (o : Option (Int32 × Int64)) : Prop := (bi = -1 ∧ o = none) ∨ ∃ i : Nat, i < 4096 ∧ bi = nI i ∧ o = some (nI i, le)

set_option maxHeartbeats 4000000 in
set_option maxRecDepth 100000 in
theorem k_M_pairs (l : Launch) (G : Gl) (w : World) {y aT aX aY aU aV aR sz : Nat} {tc : Int32} {th lx ly ux uy rf : Nat → Int32} (hM : MAt G w y aT aX aY aU aV aR tc th lx ly ux uy sz rf)  :
    GnI l y_M_pairs ws_M_pairs 4 0 0 G w [.ref y] (fun r w1 => r = nI (prs (bl th lx ly ux uy 0 4096)).length ∧ ∃ rf1 : Nat → Int32, (∀ (i : Nat) (h : i < (flt (prs (bl th lx ly ux uy 0 4096))).length), rf1 i = (flt (prs (bl th lx ly ux uy 0 4096)))[i]) ∧ MDo G w w1 y aT aX aY aU aV aR 0 th lx ly ux uy ((flt (prs (bl th lx ly ux uy 0 4096))).length) rf1) := by
  refine met_ent (by decide +kernel) (Nat.le_of_ble_eq_true rfl) (fun p e s m below meth c ls C0 hr hin hH hl => ?_)
  have hx := C0.1
  have hb := C0.2.1
  have hS : va_S (gA G) s.heap s.heap [] := va_S.rf
  have hA : ∀ q : Nat, s.heap.size ≤ q → gA G q := fun q h => Nat.le_trans C0.ev.2.2.2.2.2.2.2.2.2.2.2.2 h
  have hl : lv_has ls 4 [(0, .ref y)] := hl
  obtain ⟨hY, hT, hX, hYy, hU9, hV, hR, hDi⟩ := id hM
  obtain ⟨n_TX, n_TY, n_TU, n_TV, n_TR, n_XY, n_XU, n_XV, n_XR, n_YU, n_YV, n_YR, n_UV, n_UR, n_VR⟩ := id hDi
  refine lv_aload_n hx hb d_M_pairs_0 rfl (lv_at hl 0 rfl) ?_
  refine lv_iconst (v := 0) hx hb d_M_pairs_1 (by decide) ?_
  refine pf_M_29 C0 hH hS hY rfl rfl (Nat.le_of_ble_eq_true rfl) d_M_pairs_2 (fun H locs hH hS => ?_)
  obtain ⟨w1, ew1⟩ : ∃ z : World, z = va_up w y (some (.inr (3, [.int 0, .ref aT, .ref aX, .ref aY, .ref aU, .ref aV, .int (nI sz), .ref aR]))) := ⟨_, rfl⟩
  have hH : Hw G w1 H := by rw [ew1]; exact hH
  have hw1_aT : w1 aT = some (.inl (G.2.1.2.2.1, 4096, .inl th)) := by rw [ew1, va_up_ne _ _ (wne hT hY (by simp))]; exact hT
  have hw1_aX : w1 aX = some (.inl (G.2.1.1, 4096, .inl lx)) := by rw [ew1, va_up_ne _ _ (wne hX hY (by simp))]; exact hX
  have hw1_aY : w1 aY = some (.inl (G.2.1.1, 4096, .inl ly)) := by rw [ew1, va_up_ne _ _ (wne hYy hY (by simp))]; exact hYy
  have hw1_aU : w1 aU = some (.inl (G.2.1.1, 4096, .inl ux)) := by rw [ew1, va_up_ne _ _ (wne hU9 hY (by simp))]; exact hU9
  have hw1_aV : w1 aV = some (.inl (G.2.1.1, 4096, .inl uy)) := by rw [ew1, va_up_ne _ _ (wne hV hY (by simp))]; exact hV
  have hw1_aR : w1 aR = some (.inl (G.2.1.1, 4096, .inl rf)) := by rw [ew1, va_up_ne _ _ (wne hR hY (by simp))]; exact hR
  have hw1_y : w1 y = some (.inr (3, [.int 0, .ref aT, .ref aX, .ref aY, .ref aU, .ref aV, .int (nI sz), .ref aR])) := by rw [ew1]; exact va_up_self _ _ _
  refine lv_aload_n hx hb d_M_pairs_5 rfl (lv_at hl 0 rfl) ?_
  refine lv_iconst (v := 0) hx hb d_M_pairs_6 (by decide) ?_
  refine pf_M_55 C0 hH hS hw1_y rfl rfl (Nat.le_of_ble_eq_true rfl) d_M_pairs_7 (fun H locs hH hS => ?_)
  obtain ⟨w2, ew2⟩ : ∃ z : World, z = va_up w1 y (some (.inr (3, [.int 0, .ref aT, .ref aX, .ref aY, .ref aU, .ref aV, .int 0, .ref aR]))) := ⟨_, rfl⟩
  have hH : Hw G w2 H := by rw [ew2]; exact hH
  have hw2_aT : w2 aT = some (.inl (G.2.1.2.2.1, 4096, .inl th)) := by rw [ew2, va_up_ne _ _ (wne hw1_aT hw1_y (by simp))]; exact hw1_aT
  have hw2_aX : w2 aX = some (.inl (G.2.1.1, 4096, .inl lx)) := by rw [ew2, va_up_ne _ _ (wne hw1_aX hw1_y (by simp))]; exact hw1_aX
  have hw2_aY : w2 aY = some (.inl (G.2.1.1, 4096, .inl ly)) := by rw [ew2, va_up_ne _ _ (wne hw1_aY hw1_y (by simp))]; exact hw1_aY
  have hw2_aU : w2 aU = some (.inl (G.2.1.1, 4096, .inl ux)) := by rw [ew2, va_up_ne _ _ (wne hw1_aU hw1_y (by simp))]; exact hw1_aU
  have hw2_aV : w2 aV = some (.inl (G.2.1.1, 4096, .inl uy)) := by rw [ew2, va_up_ne _ _ (wne hw1_aV hw1_y (by simp))]; exact hw1_aV
  have hw2_aR : w2 aR = some (.inl (G.2.1.1, 4096, .inl rf)) := by rw [ew2, va_up_ne _ _ (wne hw1_aR hw1_y (by simp))]; exact hw1_aR
  have hw2_y : w2 y = some (.inr (3, [.int 0, .ref aT, .ref aX, .ref aY, .ref aU, .ref aV, .int 0, .ref aR])) := by rw [ew2]; exact va_up_self _ _ _
  refine lv_iconst (v := 0) hx hb d_M_pairs_10 (by decide) ?_
  refine lv_istore_n (lv' := [(1, .int 0), (0, .ref y)]) hx hb d_M_pairs_11 rfl hl (by decide) rfl (fun ls hl => ?_)
  refine lv_iconst (v := 0) hx hb d_M_pairs_12 (by decide) ?_
  refine lv_istore_n (lv' := [(2, .int 0), (1, .int 0), (0, .ref y)]) hx hb d_M_pairs_13 rfl hl (by decide) rfl (fun ls hl => ?_)
  have hK1 : Kp w w2 [y, aT, aX, aY, aU, aV, aR] := by rw [ew2, ew1]; exact (Kp.up (Or.inl (by simp))).ups (Or.inl (by simp))
  have hM1 : MAt G w2 y aT aX aY aU aV aR 0 th lx ly ux uy 0 rf := ⟨hw2_y, hw2_aT, hw2_aX, hw2_aY, hw2_aU, hw2_aV, hw2_aR, hDi⟩
  have loopO : ∀ (u a : Nat), a + u = 4096 → ∀ (w9 : World) (acc : List Int32) (ps : List (Int32 × Int32)) (rf9 : Nat → Int32) (H : Heap) (locs : List Loc), Hw G w9 H → va_S (gA G) s.heap H locs → MAt G w9 y aT aX aY aU aV aR 0 th lx ly ux uy acc.length rf9 → Kp w w9 [y, aT, aX, aY, aU, aV, aR] → (∀ (i : Nat) (h : i < acc.length), rf9 i = acc[i]) → acc = flt ps → ps.length ≤ 4096 * a → ps ++ prs (bl th lx ly ux uy a u) = (prs (bl th lx ly ux uy 0 4096)) → ∀ ls : Array Slot, lv_has ls 4 [(0, .ref y), (1, .int (nI ps.length)), (2, .int (nI a))] → W p l e (rmK 4 0 0) s m [.ref y].toArray below meth c H locs 0 0 (MQ below (va_Qi (fun r w1 => r = nI (prs (bl th lx ly ux uy 0 4096)).length ∧ ∃ rf1 : Nat → Int32, (∀ (i : Nat) (h : i < (flt (prs (bl th lx ly ux uy 0 4096))).length), rf1 i = (flt (prs (bl th lx ly ux uy 0 4096)))[i]) ∧ MDo G w w1 y aT aX aY aU aV aR 0 th lx ly ux uy ((flt (prs (bl th lx ly ux uy 0 4096))).length) rf1) (Wo G) (gA G)) [.ref y].toArray s 0 0 (gA G)) (F0 m 14 ls []) := by
    intro u
    induction u with
    | zero =>
      intro a ha w9 acc ps rf9 H locs hH hS hM9 hK9 hrf hac hps hpe ls hl
      obtain ⟨hY9, hT9, hX9, hYy9, hU99, hV9, hR9, -⟩ := id hM9
      have hal := flt_len ps
      rw [← hac] at hal
      refine lv_iload_n hx hb d_M_pairs_14 rfl (lv_at hl 2 rfl) ?_
      refine lv_sipush (v := 4096) hx hb d_M_pairs_15 (by decide) ?_
      refine lv_icmp_ge (tgt := 136) hx hb d_M_pairs_18 (by decide) (fun c_18 => ?_) (fun c_18 => ?_)
      · have hfin : ps = (prs (bl th lx ly ux uy 0 4096)) := by rw [← hpe, bl, prs, List.append_nil]
        refine lv_iload_n hx hb d_M_pairs_136 rfl (lv_at hl 1 rfl) ?_
        refine W.widen (k := 0) (n := 0) (by omega) (by omega) ?_
        exact W.iret hx hb hr (fun t ht hW => ⟨⟨(nI ps.length), w9, rfl, ⟨by rw [hfin], rf9, by rw [← hfin, ← hac]; exact hrf, by rw [← hfin, ← hac]; exact ⟨hM9, hK9⟩⟩, Wo.at C0.ev hH hS ht hW⟩, hS.F ht⟩) hS.2.2 d_M_pairs_137 (hlocks := C0.2.2.2.2.2.2)
      · exact absurd (show nI 4096 ≤ nI a from nI_le (by omega) (by omega)) c_18
    | succ u iho =>
      intro a ha w9 acc ps rf9 H locs hH hS hM9 hK9 hrf hac hps hpe ls hl
      obtain ⟨hY9, hT9, hX9, hYy9, hU99, hV9, hR9, -⟩ := id hM9
      have hal := flt_len ps
      rw [← hac] at hal
      refine lv_iload_n hx hb d_M_pairs_14 rfl (lv_at hl 2 rfl) ?_
      refine lv_sipush (v := 4096) hx hb d_M_pairs_15 (by decide) ?_
      refine lv_icmp_ge (tgt := 136) hx hb d_M_pairs_18 (by decide) (fun c_18 => ?_) (fun c_18 => ?_)
      · exact absurd c_18 (Int32.not_le.mpr (show nI a < nI 4096 from nI_lt (by omega) (by omega)))
      · refine lv_iload_n hx hb d_M_pairs_21 rfl (lv_at hl 2 rfl) ?_
        refine lv_iconst (v := 1) hx hb d_M_pairs_22 (by decide) ?_
        refine lv_iadd hx hb d_M_pairs_23 ?_
        refine lv_istore_n (lv' := [(3, .int ((nI a) + 1)), (0, .ref y), (1, .int (nI ps.length)), (2, .int (nI a))]) hx hb d_M_pairs_24 rfl hl (by decide) rfl (fun ls hl => ?_)
        rw [show nI a + 1 = nI (a + 1) from nI_1 a] at hl
        by_cases hta : th a = 0
        · refine lv_aload_n hx hb d_M_pairs_25 rfl (lv_at hl 1 rfl) ?_
          refine gf_M_7 C0 hH hY9 rfl d_M_pairs_26 ?_
          refine lv_iload_n hx hb d_M_pairs_29 rfl (lv_at hl 3 rfl) ?_
          refine hd_zald hx hb C0.hK hH 2 hT9 rfl (vp_in_nI (by omega) (by omega)) d_M_pairs_30 ?_
          rw [nI_clamp (by omega)]
          refine lv_if_eq (tgt := 130) hx hb d_M_pairs_31 (by decide) (fun c_31 => ?_) (fun c_31 => ?_)
          · obtain ⟨y_1, ey_1⟩ : ∃ z : Int32, z = (nI a) + 1 := ⟨_, rfl⟩
            refine lv_iinc (v := y_1) (lv' := [(2, .int y_1), (3, .int (nI (a + 1))), (0, .ref y), (1, .int (nI ps.length))]) hx hb d_M_pairs_130 hl (k := 3) rfl (by rw [ey_1]; rfl) (by decide) rfl (fun ls hl => ?_)
            refine lv_goto (tgt := 14) hx hb d_M_pairs_133 (by decide) ?_
            rw [show y_1 = nI (a + 1) from by rw [ey_1]; exact nI_1 a] at hl
            exact iho (a + 1) (by omega) w9 acc ps rf9 H locs hH hS hM9 hK9 hrf hac (by omega) (by rw [← hpe, bl, if_pos hta]) ls (lv_sub hl [2, 3, 0] rfl)
          · exact absurd hta c_31
        · rw [bl, if_neg hta, prs] at hpe
          have loopI : ∀ (v b : Nat), b + v = 4096 → ∀ (w9 : World) (acc : List Int32) (ps : List (Int32 × Int32)) (rf9 : Nat → Int32) (H : Heap) (locs : List Loc), Hw G w9 H → va_S (gA G) s.heap H locs → MAt G w9 y aT aX aY aU aV aR 0 th lx ly ux uy acc.length rf9 → Kp w w9 [y, aT, aX, aY, aU, aV, aR] → (∀ (i : Nat) (h : i < acc.length), rf9 i = acc[i]) → acc = flt ps → ps.length ≤ 4096 * a + b → ps ++ prI (mb lx ly ux uy a) (bl th lx ly ux uy b v) ++ prs (bl th lx ly ux uy (a + 1) u) = (prs (bl th lx ly ux uy 0 4096)) → ∀ ls : Array Slot, lv_has ls 4 [(0, .ref y), (1, .int (nI ps.length)), (2, .int (nI a)), (3, .int (nI b))] → W p l e (rmK 4 0 0) s m [.ref y].toArray below meth c H locs 0 0 (MQ below (va_Qi (fun r w1 => r = nI (prs (bl th lx ly ux uy 0 4096)).length ∧ ∃ rf1 : Nat → Int32, (∀ (i : Nat) (h : i < (flt (prs (bl th lx ly ux uy 0 4096))).length), rf1 i = (flt (prs (bl th lx ly ux uy 0 4096)))[i]) ∧ MDo G w w1 y aT aX aY aU aV aR 0 th lx ly ux uy ((flt (prs (bl th lx ly ux uy 0 4096))).length) rf1) (Wo G) (gA G)) [.ref y].toArray s 0 0 (gA G)) (F0 m 25 ls []) := by
            intro v
            induction v with
            | zero =>
              intro b hb9 w9 acc ps rf9 H locs hH hS hM9 hK9 hrf hac hps hpe ls hl
              obtain ⟨hY9, hT9, hX9, hYy9, hU99, hV9, hR9, -⟩ := id hM9
              have hal := flt_len ps
              rw [← hac] at hal
              refine lv_aload_n hx hb d_M_pairs_25 rfl (lv_at hl 0 rfl) ?_
              refine gf_M_7 C0 hH hY9 rfl d_M_pairs_26 ?_
              refine lv_iload_n hx hb d_M_pairs_29 rfl (lv_at hl 2 rfl) ?_
              refine hd_zald hx hb C0.hK hH 2 hT9 rfl (vp_in_nI (by omega) (by omega)) d_M_pairs_30 ?_
              rw [nI_clamp (by omega)]
              refine lv_if_eq (tgt := 130) hx hb d_M_pairs_31 (by decide) (fun c_31 => ?_) (fun c_31 => ?_)
              · exact absurd c_31 hta
              · refine lv_iload_n hx hb d_M_pairs_34 rfl (lv_at hl 3 rfl) ?_
                refine lv_sipush (v := 4096) hx hb d_M_pairs_35 (by decide) ?_
                refine lv_icmp_ge (tgt := 130) hx hb d_M_pairs_38 (by decide) (fun c_38 => ?_) (fun c_38 => ?_)
                · obtain ⟨y_2, ey_2⟩ : ∃ z : Int32, z = (nI a) + 1 := ⟨_, rfl⟩
                  refine lv_iinc (v := y_2) (lv' := [(2, .int y_2), (0, .ref y), (1, .int (nI ps.length)), (3, .int (nI b))]) hx hb d_M_pairs_130 hl (k := 2) rfl (by rw [ey_2]; rfl) (by decide) rfl (fun ls hl => ?_)
                  refine lv_goto (tgt := 14) hx hb d_M_pairs_133 (by decide) ?_
                  rw [show y_2 = nI (a + 1) from by rw [ey_2]; exact nI_1 a] at hl
                  exact iho (a + 1) (by omega) w9 acc ps rf9 H locs hH hS hM9 hK9 hrf hac (by omega) (by rw [← hpe, bl, prI, List.append_nil]) ls (lv_sub hl [1, 2, 0] rfl)
                · exact absurd (show nI 4096 ≤ nI b from nI_le (by omega) (by omega)) c_38
            | succ v ih =>
              intro b hb9 w9 acc ps rf9 H locs hH hS hM9 hK9 hrf hac hps hpe ls hl
              obtain ⟨hY9, hT9, hX9, hYy9, hU99, hV9, hR9, -⟩ := id hM9
              have hal := flt_len ps
              rw [← hac] at hal
              refine lv_aload_n hx hb d_M_pairs_25 rfl (lv_at hl 0 rfl) ?_
              refine gf_M_7 C0 hH hY9 rfl d_M_pairs_26 ?_
              refine lv_iload_n hx hb d_M_pairs_29 rfl (lv_at hl 2 rfl) ?_
              refine hd_zald hx hb C0.hK hH 2 hT9 rfl (vp_in_nI (by omega) (by omega)) d_M_pairs_30 ?_
              rw [nI_clamp (by omega)]
              refine lv_if_eq (tgt := 130) hx hb d_M_pairs_31 (by decide) (fun c_31 => ?_) (fun c_31 => ?_)
              · exact absurd c_31 hta
              · refine lv_iload_n hx hb d_M_pairs_34 rfl (lv_at hl 3 rfl) ?_
                refine lv_sipush (v := 4096) hx hb d_M_pairs_35 (by decide) ?_
                refine lv_icmp_ge (tgt := 130) hx hb d_M_pairs_38 (by decide) (fun c_38 => ?_) (fun c_38 => ?_)
                · exact absurd c_38 (Int32.not_le.mpr (show nI b < nI 4096 from nI_lt (by omega) (by omega)))
                · refine lv_aload_n hx hb d_M_pairs_41 rfl (lv_at hl 0 rfl) ?_
                  refine gf_M_7 C0 hH hY9 rfl d_M_pairs_42 ?_
                  refine lv_iload_n hx hb d_M_pairs_45 rfl (lv_at hl 3 rfl) ?_
                  refine hd_zald hx hb C0.hK hH 2 hT9 rfl (vp_in_nI (by omega) (by omega)) d_M_pairs_46 ?_
                  rw [nI_clamp (by omega)]
                  refine lv_if_eq (tgt := 124) hx hb d_M_pairs_47 (by decide) (fun c_47 => ?_) (fun c_47 => ?_)
                  · obtain ⟨y_3, ey_3⟩ : ∃ z : Int32, z = (nI b) + 1 := ⟨_, rfl⟩
                    refine lv_iinc (v := y_3) (lv' := [(3, .int y_3), (0, .ref y), (1, .int (nI ps.length)), (2, .int (nI a))]) hx hb d_M_pairs_124 hl (k := 3) rfl (by rw [ey_3]; rfl) (by decide) rfl (fun ls hl => ?_)
                    refine lv_goto (tgt := 25) hx hb d_M_pairs_127 (by decide) ?_
                    rw [show y_3 = nI (b + 1) from by rw [ey_3]; exact nI_1 b] at hl
                    exact ih (b + 1) (by omega) w9 acc ps rf9 H locs hH hS hM9 hK9 hrf hac (by omega) (by rw [← hpe, bl, if_pos c_47]) ls (lv_sub hl [1, 2, 3, 0] rfl)
                  · refine lv_aload_n hx hb d_M_pairs_50 rfl (lv_at hl 0 rfl) ?_
                    refine lv_iload_n hx hb d_M_pairs_51 rfl (lv_at hl 3 rfl) ?_
                    refine lv_aload_n hx hb d_M_pairs_52 rfl (lv_at hl 0 rfl) ?_
                    refine gf_M_13 C0 hH hY9 rfl d_M_pairs_53 ?_
                    refine lv_iload_n hx hb d_M_pairs_56 rfl (lv_at hl 2 rfl) ?_
                    refine hd_iald hx hb C0.hK hH 0 hX9 rfl (vp_in_nI (by omega) (by omega)) d_M_pairs_57 ?_
                    rw [nI_clamp (by omega)]
                    refine lv_aload_n hx hb d_M_pairs_58 rfl (lv_at hl 0 rfl) ?_
                    refine gf_M_17 C0 hH hY9 rfl d_M_pairs_59 ?_
                    refine lv_iload_n hx hb d_M_pairs_62 rfl (lv_at hl 2 rfl) ?_
                    refine hd_iald hx hb C0.hK hH 0 hYy9 rfl (vp_in_nI (by omega) (by omega)) d_M_pairs_63 ?_
                    rw [nI_clamp (by omega)]
                    refine lv_aload_n hx hb d_M_pairs_64 rfl (lv_at hl 0 rfl) ?_
                    refine gf_M_20 C0 hH hY9 rfl d_M_pairs_65 ?_
                    refine lv_iload_n hx hb d_M_pairs_68 rfl (lv_at hl 2 rfl) ?_
                    refine hd_iald hx hb C0.hK hH 0 hU99 rfl (vp_in_nI (by omega) (by omega)) d_M_pairs_69 ?_
                    rw [nI_clamp (by omega)]
                    refine lv_aload_n hx hb d_M_pairs_70 rfl (lv_at hl 0 rfl) ?_
                    refine gf_M_23 C0 hH hY9 rfl d_M_pairs_71 ?_
                    refine lv_iload_n hx hb d_M_pairs_74 rfl (lv_at hl 2 rfl) ?_
                    refine hd_iald hx hb C0.hK hH 0 hV9 rfl (vp_in_nI (by omega) (by omega)) d_M_pairs_75 ?_
                    rw [nI_clamp (by omega)]
                    refine pu_v (runV C0 (k_M_meets l G w9 hM9 b (by omega) (mb lx ly ux uy a)) (cs_M_58 C0 ⟨Nat.le_of_ble_eq_true rfl, Nat.le_of_ble_eq_true rfl⟩) hH hS (hd_recv C0.hK hH rfl hY9) rfl hl.1 rfl (lv_room (Nat.le_of_ble_eq_true rfl)) d_M_pairs_76 ⟨by show _ ≤ 0; omega, by show _ ≤ 0; omega⟩) ?_
                    refine lv_if_eq (tgt := 124) hx hb d_M_pairs_79 (by decide) (fun c_79 => ?_) (fun c_79 => ?_)
                    · have hmt : b01 (bMeets (mb lx ly ux uy a) (mb lx ly ux uy b)) = 0 := by rw [bMeets_comm]; exact c_79
                      obtain ⟨y_4, ey_4⟩ : ∃ z : Int32, z = (nI b) + 1 := ⟨_, rfl⟩
                      refine lv_iinc (v := y_4) (lv' := [(3, .int y_4), (0, .ref y), (1, .int (nI ps.length)), (2, .int (nI a))]) hx hb d_M_pairs_124 hl (k := 3) rfl (by rw [ey_4]; rfl) (by decide) rfl (fun ls hl => ?_)
                      refine lv_goto (tgt := 25) hx hb d_M_pairs_127 (by decide) ?_
                      rw [show y_4 = nI (b + 1) from by rw [ey_4]; exact nI_1 b] at hl
                      exact ih (b + 1) (by omega) w9 acc ps rf9 H locs hH hS hM9 hK9 hrf hac (by omega) (by rw [← hpe, bl, if_neg c_47, prI, if_pos hmt]) ls (lv_sub hl [1, 2, 3, 0] rfl)
                    · have hmt : ¬ b01 (bMeets (mb lx ly ux uy a) (mb lx ly ux uy b)) = 0 := by rw [bMeets_comm]; exact c_79
                      refine lv_iload_n hx hb d_M_pairs_82 rfl (lv_at hl 1 rfl) ?_
                      refine lv_sipush (v := 2048) hx hb d_M_pairs_83 (by decide) ?_
                      refine lv_icmp_ge (tgt := 121) hx hb d_M_pairs_86 (by decide) (fun c_86 => ?_) (fun c_86 => ?_)
                      · have hge9 : 2048 ≤ ps.length := Nat.le_of_not_lt (fun h => absurd c_86 (Int32.not_le.mpr (show nI ps.length < nI 2048 from nI_lt h (by decide))))
                        obtain ⟨y_5, ey_5⟩ : ∃ z : Int32, z = (nI ps.length) + 1 := ⟨_, rfl⟩
                        refine lv_iinc (v := y_5) (lv' := [(1, .int y_5), (0, .ref y), (2, .int (nI a)), (3, .int (nI b))]) hx hb d_M_pairs_121 hl (k := 1) rfl (by rw [ey_5]; rfl) (by decide) rfl (fun ls hl => ?_)
                        obtain ⟨y_6, ey_6⟩ : ∃ z : Int32, z = (nI b) + 1 := ⟨_, rfl⟩
                        refine lv_iinc (v := y_6) (lv' := [(3, .int y_6), (1, .int y_5), (0, .ref y), (2, .int (nI a))]) hx hb d_M_pairs_124 hl (k := 3) rfl (by rw [ey_6]; rfl) (by decide) rfl (fun ls hl => ?_)
                        refine lv_goto (tgt := 25) hx hb d_M_pairs_127 (by decide) ?_
                        rw [show y_6 = nI (b + 1) from by rw [ey_6]; exact nI_1 b] at hl
                        rw [show y_5 = nI (ps ++ [(nI a, nI b)]).length from by rw [ey_5, List.length_append]; exact nI_1 _] at hl
                        exact ih (b + 1) (by omega) w9 acc (ps ++ [(nI a, nI b)]) rf9 H locs hH hS hM9 hK9 hrf (by rw [hac]; exact (flt_ge hge9 _).symm) (by rw [List.length_append]; have : [(nI a, nI b)].length = 1 := rfl; omega) (by rw [← hpe, bl, if_neg c_47, prI, if_neg hmt]; simp [mb]) ls (lv_sub hl [2, 1, 3, 0] rfl)
                      · have hlt9 : ps.length < 2048 := Nat.not_le.mp (fun h => c_86 (show nI 2048 ≤ nI ps.length from nI_le h (by omega)))
                        refine lv_aload_n hx hb d_M_pairs_89 rfl (lv_at hl 0 rfl) ?_
                        refine gf_M_26 C0 hH hY9 rfl d_M_pairs_90 ?_
                        refine lv_aload_n hx hb d_M_pairs_93 rfl (lv_at hl 0 rfl) ?_
                        refine gf_M_55 C0 hH hY9 rfl d_M_pairs_94 ?_
                        refine lv_iload_n hx hb d_M_pairs_97 rfl (lv_at hl 2 rfl) ?_
                        refine hd_iast hx hb C0.hK hH hS 0 hR9 rfl (vp_in_nI (by omega) (by omega)) d_M_pairs_98 (fun H locs hH hS => ?_)
                        rw [nI_clamp (by omega)] at hH
                        obtain ⟨w3, ew3⟩ : ∃ z : World, z = va_up w9 aR (some (.inl (G.2.1.1, 4096, .inl (upd rf9 acc.length (nI a))))) := ⟨_, rfl⟩
                        have hH : Hw G w3 H := by rw [ew3]; exact hH
                        have hw3_y : w3 y = some (.inr (3, [.int 0, .ref aT, .ref aX, .ref aY, .ref aU, .ref aV, .int (nI acc.length), .ref aR])) := by rw [ew3, va_up_ne _ _ (wne hY9 hR9 (by simp))]; exact hY9
                        have hw3_aT : w3 aT = some (.inl (G.2.1.2.2.1, 4096, .inl th)) := by rw [ew3, va_up_ne _ _ (n_TR)]; exact hT9
                        have hw3_aX : w3 aX = some (.inl (G.2.1.1, 4096, .inl lx)) := by rw [ew3, va_up_ne _ _ (n_XR)]; exact hX9
                        have hw3_aY : w3 aY = some (.inl (G.2.1.1, 4096, .inl ly)) := by rw [ew3, va_up_ne _ _ (n_YR)]; exact hYy9
                        have hw3_aU : w3 aU = some (.inl (G.2.1.1, 4096, .inl ux)) := by rw [ew3, va_up_ne _ _ (n_UR)]; exact hU99
                        have hw3_aV : w3 aV = some (.inl (G.2.1.1, 4096, .inl uy)) := by rw [ew3, va_up_ne _ _ (n_VR)]; exact hV9
                        have hw3_aR : w3 aR = some (.inl (G.2.1.1, 4096, .inl (upd rf9 acc.length (nI a)))) := by rw [ew3]; exact va_up_self _ _ _
                        refine lv_aload_n hx hb d_M_pairs_99 rfl (lv_at hl 0 rfl) ?_
                        refine gf_M_26 C0 hH hw3_y rfl d_M_pairs_100 ?_
                        refine lv_aload_n hx hb d_M_pairs_103 rfl (lv_at hl 0 rfl) ?_
                        refine gf_M_55 C0 hH hw3_y rfl d_M_pairs_104 ?_
                        refine lv_iconst (v := 1) hx hb d_M_pairs_107 (by decide) ?_
                        refine lv_iadd hx hb d_M_pairs_108 ?_
                        rw [show ((nI acc.length) + 1) = nI (acc.length + 1) from nI_1 _]
                        refine lv_iload_n hx hb d_M_pairs_109 rfl (lv_at hl 3 rfl) ?_
                        refine hd_iast hx hb C0.hK hH hS 0 hw3_aR rfl (vp_in_nI (by omega) (by omega)) d_M_pairs_110 (fun H locs hH hS => ?_)
                        rw [nI_clamp (by omega)] at hH
                        obtain ⟨w4, ew4⟩ : ∃ z : World, z = va_up w3 aR (some (.inl (G.2.1.1, 4096, .inl (upd (upd rf9 acc.length (nI a)) (acc.length + 1) (nI b))))) := ⟨_, rfl⟩
                        have hH : Hw G w4 H := by rw [ew4]; exact hH
                        have hw4_y : w4 y = some (.inr (3, [.int 0, .ref aT, .ref aX, .ref aY, .ref aU, .ref aV, .int (nI acc.length), .ref aR])) := by rw [ew4, va_up_ne _ _ (wne hw3_y hw3_aR (by simp))]; exact hw3_y
                        have hw4_aT : w4 aT = some (.inl (G.2.1.2.2.1, 4096, .inl th)) := by rw [ew4, va_up_ne _ _ (n_TR)]; exact hw3_aT
                        have hw4_aX : w4 aX = some (.inl (G.2.1.1, 4096, .inl lx)) := by rw [ew4, va_up_ne _ _ (n_XR)]; exact hw3_aX
                        have hw4_aY : w4 aY = some (.inl (G.2.1.1, 4096, .inl ly)) := by rw [ew4, va_up_ne _ _ (n_YR)]; exact hw3_aY
                        have hw4_aU : w4 aU = some (.inl (G.2.1.1, 4096, .inl ux)) := by rw [ew4, va_up_ne _ _ (n_UR)]; exact hw3_aU
                        have hw4_aV : w4 aV = some (.inl (G.2.1.1, 4096, .inl uy)) := by rw [ew4, va_up_ne _ _ (n_VR)]; exact hw3_aV
                        have hw4_aR : w4 aR = some (.inl (G.2.1.1, 4096, .inl (upd (upd rf9 acc.length (nI a)) (acc.length + 1) (nI b)))) := by rw [ew4]; exact va_up_self _ _ _
                        refine lv_aload_n hx hb d_M_pairs_111 rfl (lv_at hl 0 rfl) ?_
                        refine lv_dup hx hb d_M_pairs_112 rfl ?_
                        refine gf_M_55 C0 hH hw4_y rfl d_M_pairs_113 ?_
                        refine lv_iconst (v := 2) hx hb d_M_pairs_116 (by decide) ?_
                        refine lv_iadd hx hb d_M_pairs_117 ?_
                        rw [show ((nI acc.length) + 2) = nI (acc.length + 2) from nI_add _ 2]
                        refine pf_M_55 C0 hH hS hw4_y rfl rfl (Nat.le_of_ble_eq_true rfl) d_M_pairs_118 (fun H locs hH hS => ?_)
                        obtain ⟨w5, ew5⟩ : ∃ z : World, z = va_up w4 y (some (.inr (3, [.int 0, .ref aT, .ref aX, .ref aY, .ref aU, .ref aV, .int (nI (acc.length + 2)), .ref aR]))) := ⟨_, rfl⟩
                        have hH : Hw G w5 H := by rw [ew5]; exact hH
                        have hw5_aT : w5 aT = some (.inl (G.2.1.2.2.1, 4096, .inl th)) := by rw [ew5, va_up_ne _ _ (wne hw4_aT hw4_y (by simp))]; exact hw4_aT
                        have hw5_aX : w5 aX = some (.inl (G.2.1.1, 4096, .inl lx)) := by rw [ew5, va_up_ne _ _ (wne hw4_aX hw4_y (by simp))]; exact hw4_aX
                        have hw5_aY : w5 aY = some (.inl (G.2.1.1, 4096, .inl ly)) := by rw [ew5, va_up_ne _ _ (wne hw4_aY hw4_y (by simp))]; exact hw4_aY
                        have hw5_aU : w5 aU = some (.inl (G.2.1.1, 4096, .inl ux)) := by rw [ew5, va_up_ne _ _ (wne hw4_aU hw4_y (by simp))]; exact hw4_aU
                        have hw5_aV : w5 aV = some (.inl (G.2.1.1, 4096, .inl uy)) := by rw [ew5, va_up_ne _ _ (wne hw4_aV hw4_y (by simp))]; exact hw4_aV
                        have hw5_aR : w5 aR = some (.inl (G.2.1.1, 4096, .inl (upd (upd rf9 acc.length (nI a)) (acc.length + 1) (nI b)))) := by rw [ew5, va_up_ne _ _ (wne hw4_aR hw4_y (by simp))]; exact hw4_aR
                        have hw5_y : w5 y = some (.inr (3, [.int 0, .ref aT, .ref aX, .ref aY, .ref aU, .ref aV, .int (nI (acc.length + 2)), .ref aR])) := by rw [ew5]; exact va_up_self _ _ _
                        obtain ⟨y_7, ey_7⟩ : ∃ z : Int32, z = (nI ps.length) + 1 := ⟨_, rfl⟩
                        refine lv_iinc (v := y_7) (lv' := [(1, .int y_7), (0, .ref y), (2, .int (nI a)), (3, .int (nI b))]) hx hb d_M_pairs_121 hl (k := 1) rfl (by rw [ey_7]; rfl) (by decide) rfl (fun ls hl => ?_)
                        obtain ⟨y_8, ey_8⟩ : ∃ z : Int32, z = (nI b) + 1 := ⟨_, rfl⟩
                        refine lv_iinc (v := y_8) (lv' := [(3, .int y_8), (1, .int y_7), (0, .ref y), (2, .int (nI a))]) hx hb d_M_pairs_124 hl (k := 3) rfl (by rw [ey_8]; rfl) (by decide) rfl (fun ls hl => ?_)
                        refine lv_goto (tgt := 25) hx hb d_M_pairs_127 (by decide) ?_
                        rw [show y_8 = nI (b + 1) from by rw [ey_8]; exact nI_1 b] at hl
                        rw [show y_7 = nI (ps ++ [(nI a, nI b)]).length from by rw [ey_7, List.length_append]; exact nI_1 _] at hl
                        refine ih (b + 1) (by omega) w5 (acc ++ [nI a] ++ [nI b]) (ps ++ [(nI a, nI b)]) _ H locs hH hS (by rw [List.length_append, List.length_append]; exact ⟨hw5_y, hw5_aT, hw5_aX, hw5_aY, hw5_aU, hw5_aV, hw5_aR, hDi⟩) (by rw [ew5, ew4, ew3]; exact ((hK9.ups (Or.inl (by simp))).ups (Or.inl (by simp))).ups (Or.inl (by simp))) (fun i hi => ?_) (by rw [hac]; exact (flt_lt hlt9 _ _).symm) (by rw [List.length_append]; have : [(nI a, nI b)].length = 1 := rfl; omega) (by rw [← hpe, bl, if_neg c_47, prI, if_neg hmt]; simp [mb]) ls (lv_sub hl [2, 1, 3, 0] rfl)
                        rw [List.length_append, List.length_append] at hi
                        have h1 : [nI a].length = 1 := rfl
                        have h2 : [nI b].length = 1 := rfl
                        by_cases g : i < acc.length
                        · rw [List.getElem_append_left (by rw [List.length_append]; omega), List.getElem_append_left g, upd, if_neg (by omega), upd, if_neg (by omega)]; exact hrf i g
                        · by_cases g2 : i = acc.length
                          · subst g2
                            rw [upd, if_neg (by omega), upd, if_pos rfl, List.getElem_append_left (by rw [List.length_append]; omega)]; simp
                          · have g3 : i = acc.length + 1 := by omega
                            subst g3
                            rw [upd, if_pos rfl, List.getElem_append_right (by rw [List.length_append]; omega)]; simp
          exact loopI u (a + 1) (by omega) w9 acc ps rf9 H locs hH hS hM9 hK9 hrf hac (by omega) (by rw [← hpe, List.append_assoc]) ls (lv_sub hl [1, 2, 3, 0] rfl)
  exact loopO 4096 0 rfl w2 [] [] rf H locs hH hS hM1 hK1 (fun i h => absurd h (Nat.not_lt_zero _)) rfl (Nat.le_refl _) rfl ls (lv_sub hl [2, 1, 0] rfl)
