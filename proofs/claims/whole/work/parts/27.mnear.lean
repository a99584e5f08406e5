/-! the model's nearest -/

set_option maxHeartbeats 4000000 in
set_option maxRecDepth 100000 in
theorem k_M_nearest (l : Launch) (G : Gl) (w : World) {y aT aX aY aU aV aR sz : Nat} {tc : Int32} {th lx ly ux uy rf : Nat → Int32} (hM : MAt G w y aT aX aY aU aV aR tc th lx ly ux uy sz rf) (px py : Int32) (nn : Nat) (hn1 : 1 ≤ nn) (hn2 : nn ≤ 4096) (hp9 : okP px py) :
    GnI l y_M_nearest ws_M_nearest 4 0 0 G w [.ref y, .int px, .int py, .int (nI nn)] (fun r w1 => r = nI (nM px py (bl th lx ly ux uy 0 4096) nn (-1) (-1)).length ∧ ∃ rf1 : Nat → Int32, (∀ (i : Nat) (h : i < (nM px py (bl th lx ly ux uy 0 4096) nn (-1) (-1)).length), rf1 i = ((nM px py (bl th lx ly ux uy 0 4096) nn (-1) (-1))[i]).1) ∧ MDo G w w1 y aT aX aY aU aV aR 0 th lx ly ux uy ((nM px py (bl th lx ly ux uy 0 4096) nn (-1) (-1)).length) rf1) := by
  refine met_ent (by decide +kernel) (Nat.le_of_ble_eq_true rfl) (fun p e s m below meth c ls C0 hr hin hH hl => ?_)
  have hx := C0.1
  have hb := C0.2.1
  have hS : va_S (gA G) s.heap s.heap [] := va_S.rf
  have hA : ∀ q : Nat, s.heap.size ≤ q → gA G q := fun q h => Nat.le_trans C0.ev.2.2.2.2.2.2.2.2.2.2.2.2 h
  have hl : lv_has ls 15 [(0, .ref y), (1, .int px), (2, .int py), (3, .int (nI nn))] := hl
  obtain ⟨hY, hT, hX, hYy, hU9, hV, hR, hDi⟩ := id hM
  obtain ⟨n_TX, n_TY, n_TU, n_TV, n_TR, n_XY, n_XU, n_XV, n_XR, n_YU, n_YV, n_YR, n_UV, n_UR, n_VR⟩ := id hDi
  refine lv_aload_n hx hb d_M_nearest_0 rfl (lv_at hl 0 rfl) ?_
  refine lv_iconst (v := 0) hx hb d_M_nearest_1 (by decide) ?_
  refine pf_M_29 C0 hH hS hY rfl rfl (Nat.le_of_ble_eq_true rfl) d_M_nearest_2 (fun H locs hH hS => ?_)
  obtain ⟨w1, ew1⟩ : ∃ z : World, z = va_up w y (some (.inr (3, [.int 0, .ref aT, .ref aX, .ref aY, .ref aU, .ref aV, .int (nI sz), .ref aR]))) := ⟨_, rfl⟩
  have hH : Hw G w1 H := by rw [ew1]; exact hH
  have hw1_aT : w1 aT = some (.inl (G.2.1.2.2.1, 4096, .inl th)) := by rw [ew1, va_up_ne _ _ (wne hT hY (by simp))]; exact hT
  have hw1_aX : w1 aX = some (.inl (G.2.1.1, 4096, .inl lx)) := by rw [ew1, va_up_ne _ _ (wne hX hY (by simp))]; exact hX
  have hw1_aY : w1 aY = some (.inl (G.2.1.1, 4096, .inl ly)) := by rw [ew1, va_up_ne _ _ (wne hYy hY (by simp))]; exact hYy
  have hw1_aU : w1 aU = some (.inl (G.2.1.1, 4096, .inl ux)) := by rw [ew1, va_up_ne _ _ (wne hU9 hY (by simp))]; exact hU9
  have hw1_aV : w1 aV = some (.inl (G.2.1.1, 4096, .inl uy)) := by rw [ew1, va_up_ne _ _ (wne hV hY (by simp))]; exact hV
  have hw1_aR : w1 aR = some (.inl (G.2.1.1, 4096, .inl rf)) := by rw [ew1, va_up_ne _ _ (wne hR hY (by simp))]; exact hR
  have hw1_y : w1 y = some (.inr (3, [.int 0, .ref aT, .ref aX, .ref aY, .ref aU, .ref aV, .int (nI sz), .ref aR])) := by rw [ew1]; exact va_up_self _ _ _
  refine lv_iload_n hx hb d_M_nearest_5 rfl (lv_at hl 3 rfl) ?_
  refine lv_iconst (v := 1) hx hb d_M_nearest_6 (by decide) ?_
  refine lv_sipush (v := 4096) hx hb d_M_nearest_7 (by decide) ?_
  refine pu_v (runS C0 (k_M_within l G w1 (nI nn) 1 4096) (cs_M_35 C0 ⟨Nat.le_of_ble_eq_true rfl, Nat.le_of_ble_eq_true rfl⟩) hH hS rfl hl.1 rfl (lv_room (Nat.le_of_ble_eq_true rfl)) d_M_nearest_10 ⟨by show _ ≤ 0; omega, by show _ ≤ 0; omega⟩) ?_
  refine lv_if_eq (tgt := 30) hx hb d_M_nearest_13 (by decide) (fun c_13 => ?_) (fun c_13 => ?_)
  · exact absurd ((b01_t (show (1 : Int32) ≤ nI nn ∧ nI nn ≤ 4096 from ⟨show nI 1 ≤ nI nn from nI_le hn1 (by omega), show nI nn ≤ nI 4096 from nI_le hn2 (by omega)⟩)).symm.trans c_13) (by decide)
  · refine lv_iload_n hx hb d_M_nearest_16 rfl (lv_at hl 1 rfl) ?_
    refine pu_v (runS C0 (k_M_isFar l G w1 px) (cs_M_39 C0 ⟨Nat.le_of_ble_eq_true rfl, Nat.le_of_ble_eq_true rfl⟩) hH hS rfl hl.1 rfl (lv_room (Nat.le_of_ble_eq_true rfl)) d_M_nearest_17 ⟨by show _ ≤ 0; omega, by show _ ≤ 0; omega⟩) ?_
    refine lv_if_ne (tgt := 30) hx hb d_M_nearest_20 (by decide) (fun c_20 => ?_) (fun c_20 => ?_)
    · exact absurd (b01_f (fun q => q hp9.1)) c_20
    · refine lv_iload_n hx hb d_M_nearest_23 rfl (lv_at hl 2 rfl) ?_
      refine pu_v (runS C0 (k_M_isFar l G w1 py) (cs_M_39 C0 ⟨Nat.le_of_ble_eq_true rfl, Nat.le_of_ble_eq_true rfl⟩) hH hS rfl hl.1 rfl (lv_room (Nat.le_of_ble_eq_true rfl)) d_M_nearest_24 ⟨by show _ ≤ 0; omega, by show _ ≤ 0; omega⟩) ?_
      refine lv_if_eq (tgt := 36) hx hb d_M_nearest_27 (by decide) (fun c_27 => ?_) (fun c_27 => ?_)
      · refine lv_aload_n hx hb d_M_nearest_36 rfl (lv_at hl 0 rfl) ?_
        refine lv_iconst (v := 0) hx hb d_M_nearest_37 (by decide) ?_
        refine pf_M_55 C0 hH hS hw1_y rfl rfl (Nat.le_of_ble_eq_true rfl) d_M_nearest_38 (fun H locs hH hS => ?_)
        obtain ⟨w2, ew2⟩ : ∃ z : World, z = va_up w1 y (some (.inr (3, [.int 0, .ref aT, .ref aX, .ref aY, .ref aU, .ref aV, .int 0, .ref aR]))) := ⟨_, rfl⟩
        have hH : Hw G w2 H := by rw [ew2]; exact hH
        have hw2_aT : w2 aT = some (.inl (G.2.1.2.2.1, 4096, .inl th)) := by rw [ew2, va_up_ne _ _ (wne hw1_aT hw1_y (by simp))]; exact hw1_aT
        have hw2_aX : w2 aX = some (.inl (G.2.1.1, 4096, .inl lx)) := by rw [ew2, va_up_ne _ _ (wne hw1_aX hw1_y (by simp))]; exact hw1_aX
        have hw2_aY : w2 aY = some (.inl (G.2.1.1, 4096, .inl ly)) := by rw [ew2, va_up_ne _ _ (wne hw1_aY hw1_y (by simp))]; exact hw1_aY
        have hw2_aU : w2 aU = some (.inl (G.2.1.1, 4096, .inl ux)) := by rw [ew2, va_up_ne _ _ (wne hw1_aU hw1_y (by simp))]; exact hw1_aU
        have hw2_aV : w2 aV = some (.inl (G.2.1.1, 4096, .inl uy)) := by rw [ew2, va_up_ne _ _ (wne hw1_aV hw1_y (by simp))]; exact hw1_aV
        have hw2_aR : w2 aR = some (.inl (G.2.1.1, 4096, .inl rf)) := by rw [ew2, va_up_ne _ _ (wne hw1_aR hw1_y (by simp))]; exact hw1_aR
        have hw2_y : w2 y = some (.inr (3, [.int 0, .ref aT, .ref aX, .ref aY, .ref aU, .ref aV, .int 0, .ref aR])) := by rw [ew2]; exact va_up_self _ _ _
        refine W.ldc2 hx hb C0.2.2.2.1 (C0.2.2.2.2.1 _ mw_775) rfl d_M_nearest_41 ?_
        refine lv_lstore (lv' := [(4, .long (-1)), (0, .ref y), (1, .int px), (2, .int py), (3, .int (nI nn))]) hx hb d_M_nearest_44 hl (by decide) rfl (fun ls hl => ?_)
        refine lv_iconst (v := (-1)) hx hb d_M_nearest_46 (by decide) ?_
        refine lv_istore (lv' := [(6, .int (-1)), (4, .long (-1)), (0, .ref y), (1, .int px), (2, .int py), (3, .int (nI nn))]) hx hb d_M_nearest_47 hl (by decide) rfl (fun ls hl => ?_)
        refine lv_iconst (v := 1) hx hb d_M_nearest_49 (by decide) ?_
        refine lv_istore (lv' := [(7, .int 1), (6, .int (-1)), (4, .long (-1)), (0, .ref y), (1, .int px), (2, .int py), (3, .int (nI nn))]) hx hb d_M_nearest_50 hl (by decide) rfl (fun ls hl => ?_)
        have hK1 : Kp w w2 [y, aT, aX, aY, aU, aV, aR] := by rw [ew2, ew1]; exact (Kp.up (Or.inl (by simp))).ups (Or.inl (by simp))
        have hM1 : MAt G w2 y aT aX aY aU aV aR 0 th lx ly ux uy 0 rf := ⟨hw2_y, hw2_aT, hw2_aX, hw2_aY, hw2_aU, hw2_aV, hw2_aR, hDi⟩
        have loopO : ∀ (u : Nat) (w9 : World) (acc : List (Int32 × Int64)) (rf9 : Nat → Int32) (last : Int64) (lb : Int32) (H : Heap) (locs : List Loc), acc.length + u = nn → Hw G w9 H → va_S (gA G) s.heap H locs → MAt G w9 y aT aX aY aU aV aR 0 th lx ly ux uy acc.length rf9 → Kp w w9 [y, aT, aX, aY, aU, aV, aR] → (∀ (i : Nat) (h : i < acc.length), rf9 i = (acc[i]).1) → acc ++ nM px py (bl th lx ly ux uy 0 4096) u last lb = (nM px py (bl th lx ly ux uy 0 4096) nn (-1) (-1)) → ∀ ls : Array Slot, lv_has ls 15 [(0, .ref y), (1, .int px), (2, .int py), (3, .int (nI nn)), (4, .long last), (6, .int lb), (7, .int 1)] → W p l e (rmK 4 0 0) s m [.ref y, .int px, .int py, .int (nI nn)].toArray below meth c H locs 0 0 (MQ below (va_Qi (fun r w1 => r = nI (nM px py (bl th lx ly ux uy 0 4096) nn (-1) (-1)).length ∧ ∃ rf1 : Nat → Int32, (∀ (i : Nat) (h : i < (nM px py (bl th lx ly ux uy 0 4096) nn (-1) (-1)).length), rf1 i = ((nM px py (bl th lx ly ux uy 0 4096) nn (-1) (-1))[i]).1) ∧ MDo G w w1 y aT aX aY aU aV aR 0 th lx ly ux uy ((nM px py (bl th lx ly ux uy 0 4096) nn (-1) (-1)).length) rf1) (Wo G) (gA G)) [.ref y, .int px, .int py, .int (nI nn)].toArray s 0 0 (gA G)) (F0 m 52 ls []) := by
          intro u
          induction u with
          | zero =>
            intro w9 acc rf9 last lb H locs hau hH hS hM9 hK9 hrf hfo ls hl
            obtain ⟨hY9, hT9, hX9, hYy9, hU99, hV9, hR9, -⟩ := id hM9
            refine lv_iload hx hb d_M_nearest_52 (lv_at hl 6 rfl) ?_
            refine lv_if_eq (tgt := 213) hx hb d_M_nearest_54 (by decide) (fun c_54 => ?_) (fun c_54 => ?_)
            · exact absurd c_54 (by decide)
            · refine lv_aload_n hx hb d_M_nearest_57 rfl (lv_at hl 0 rfl) ?_
              refine gf_M_55 C0 hH hY9 rfl d_M_nearest_58 ?_
              refine lv_iload_n hx hb d_M_nearest_61 rfl (lv_at hl 3 rfl) ?_
              refine lv_icmp_ge (tgt := 213) hx hb d_M_nearest_62 (by decide) (fun c_62 => ?_) (fun c_62 => ?_)
              · have hfin : acc = (nM px py (bl th lx ly ux uy 0 4096) nn (-1) (-1)) := by rw [← hfo, nM, List.append_nil]
                refine lv_aload_n hx hb d_M_nearest_213 rfl (lv_at hl 0 rfl) ?_
                refine gf_M_55 C0 hH hY9 rfl d_M_nearest_214 ?_
                refine W.widen (k := 0) (n := 0) (by omega) (by omega) ?_
                exact W.iret hx hb hr (fun t ht hW => ⟨⟨(nI acc.length), w9, rfl, ⟨by rw [hfin], rf9, by rw [← hfin]; exact hrf, by rw [← hfin]; exact ⟨hM9, hK9⟩⟩, Wo.at C0.ev hH hS ht hW⟩, hS.F ht⟩) hS.2.2 d_M_nearest_217 (hlocks := C0.2.2.2.2.2.2)
              · exact absurd (nI_le (show nn ≤ acc.length by omega) (by omega)) c_62
          | succ u iho =>
            intro w9 acc rf9 last lb H locs hau hH hS hM9 hK9 hrf hfo ls hl
            obtain ⟨hY9, hT9, hX9, hYy9, hU99, hV9, hR9, -⟩ := id hM9
            refine lv_iload hx hb d_M_nearest_52 (lv_at hl 6 rfl) ?_
            refine lv_if_eq (tgt := 213) hx hb d_M_nearest_54 (by decide) (fun c_54 => ?_) (fun c_54 => ?_)
            · exact absurd c_54 (by decide)
            · refine lv_aload_n hx hb d_M_nearest_57 rfl (lv_at hl 0 rfl) ?_
              refine gf_M_55 C0 hH hY9 rfl d_M_nearest_58 ?_
              refine lv_iload_n hx hb d_M_nearest_61 rfl (lv_at hl 3 rfl) ?_
              refine lv_icmp_ge (tgt := 213) hx hb d_M_nearest_62 (by decide) (fun c_62 => ?_) (fun c_62 => ?_)
              · exact absurd c_62 (Int32.not_le.mpr (nI_lt (show acc.length < nn by omega) (by omega)))
              · refine lv_iconst (v := (-1)) hx hb d_M_nearest_65 (by decide) ?_
                refine lv_istore (lv' := [(8, .int (-1)), (0, .ref y), (1, .int px), (2, .int py), (3, .int (nI nn)), (4, .long last), (6, .int lb), (7, .int 1)]) hx hb d_M_nearest_66 hl (by decide) rfl (fun ls hl => ?_)
                refine lv_lconst (v := 0) hx hb d_M_nearest_68 (by decide) ?_
                refine lv_lstore (lv' := [(9, .long 0), (8, .int (-1)), (0, .ref y), (1, .int px), (2, .int py), (3, .int (nI nn)), (4, .long last), (6, .int lb), (7, .int 1)]) hx hb d_M_nearest_69 hl (by decide) rfl (fun ls hl => ?_)
                refine lv_iconst (v := 0) hx hb d_M_nearest_71 (by decide) ?_
                refine lv_istore (lv' := [(11, .int 0), (9, .long 0), (8, .int (-1)), (0, .ref y), (1, .int px), (2, .int py), (3, .int (nI nn)), (4, .long last), (6, .int lb), (7, .int 1)]) hx hb d_M_nearest_72 hl (by decide) rfl (fun ls hl => ?_)
                have loopI : ∀ (v b : Nat), b + v = 4096 → ∀ (bi : Int32) (le : Int64) (o : Option (Int32 × Int64)), NbS bi le o → scN px py last lb o (bl th lx ly ux uy b v) = scN px py last lb none (bl th lx ly ux uy 0 4096) → ∀ ls : Array Slot, lv_has ls 15 [(0, .ref y), (1, .int px), (2, .int py), (3, .int (nI nn)), (4, .long last), (6, .int lb), (7, .int 1), (8, .int bi), (9, .long le), (11, .int (nI b))] → W p l e (rmK 4 0 0) s m [.ref y, .int px, .int py, .int (nI nn)].toArray below meth c H locs 0 0 (MQ below (va_Qi (fun r w1 => r = nI (nM px py (bl th lx ly ux uy 0 4096) nn (-1) (-1)).length ∧ ∃ rf1 : Nat → Int32, (∀ (i : Nat) (h : i < (nM px py (bl th lx ly ux uy 0 4096) nn (-1) (-1)).length), rf1 i = ((nM px py (bl th lx ly ux uy 0 4096) nn (-1) (-1))[i]).1) ∧ MDo G w w1 y aT aX aY aU aV aR 0 th lx ly ux uy ((nM px py (bl th lx ly ux uy 0 4096) nn (-1) (-1)).length) rf1) (Wo G) (gA G)) [.ref y, .int px, .int py, .int (nI nn)].toArray s 0 0 (gA G)) (F0 m 74 ls []) := by
                  intro v
                  induction v with
                  | zero =>
                    intro b hb9 bi le o hbo hso ls hl
                    refine lv_iload hx hb d_M_nearest_74 (lv_at hl 9 rfl) ?_
                    refine lv_sipush (v := 4096) hx hb d_M_nearest_76 (by decide) ?_
                    refine lv_icmp_ge (tgt := 164) hx hb d_M_nearest_79 (by decide) (fun c_79 => ?_) (fun c_79 => ?_)
                    · rcases hbo with ⟨hbi, ho⟩ | ⟨i, hi9, hbi, ho⟩
                      · subst hbi
                        have hsc : scN px py last lb none (bl th lx ly ux uy 0 4096) = none := by rw [← hso, bl, ho]; rfl
                        refine lv_iload hx hb d_M_nearest_164 (lv_at hl 7 rfl) ?_
                        refine lv_if_lt (tgt := 173) hx hb d_M_nearest_166 (by decide) (fun c_166 => ?_) (fun c_166 => ?_)
                        · refine lv_iconst (v := 0) hx hb d_M_nearest_173 (by decide) ?_
                          refine lv_istore (lv' := [(7, .int 0), (0, .ref y), (1, .int px), (2, .int py), (3, .int (nI nn)), (4, .long last), (6, .int lb), (8, .int (-1)), (9, .long le), (11, .int (nI b))]) hx hb d_M_nearest_174 hl (by decide) rfl (fun ls hl => ?_)
                          refine lv_iload hx hb d_M_nearest_176 (lv_at hl 0 rfl) ?_
                          refine lv_if_eq (tgt := 210) hx hb d_M_nearest_178 (by decide) (fun c_178 => ?_) (fun c_178 => ?_)
                          · refine lv_goto (tgt := 52) hx hb d_M_nearest_210 (by decide) ?_
                            refine lv_iload hx hb d_M_nearest_52 (lv_at hl 0 rfl) ?_
                            refine lv_if_eq (tgt := 213) hx hb d_M_nearest_54 (by decide) (fun c_54 => ?_) (fun c_54 => ?_)
                            · have hfin : acc = (nM px py (bl th lx ly ux uy 0 4096) nn (-1) (-1)) := by rw [← hfo, nM, hsc, List.append_nil]
                              refine lv_aload_n hx hb d_M_nearest_213 rfl (lv_at hl 1 rfl) ?_
                              refine gf_M_55 C0 hH hY9 rfl d_M_nearest_214 ?_
                              refine W.widen (k := 0) (n := 0) (by omega) (by omega) ?_
                              exact W.iret hx hb hr (fun t ht hW => ⟨⟨(nI acc.length), w9, rfl, ⟨by rw [hfin], rf9, by rw [← hfin]; exact hrf, by rw [← hfin]; exact ⟨hM9, hK9⟩⟩, Wo.at C0.ev hH hS ht hW⟩, hS.F ht⟩) hS.2.2 d_M_nearest_217 (hlocks := C0.2.2.2.2.2.2)
                            · exact absurd rfl c_54
                          · exact absurd rfl c_178
                        · exact absurd (by decide) c_166
                      · subst hbi
                        have hsc : scN px py last lb none (bl th lx ly ux uy 0 4096) = some (nI i, le) := by rw [← hso, bl, ho]; rfl
                        refine lv_iload hx hb d_M_nearest_164 (lv_at hl 7 rfl) ?_
                        refine lv_if_lt (tgt := 173) hx hb d_M_nearest_166 (by decide) (fun c_166 => ?_) (fun c_166 => ?_)
                        · exact absurd c_166 (nI_pos (by omega))
                        · refine lv_iconst (v := 1) hx hb d_M_nearest_169 (by decide) ?_
                          refine lv_goto (tgt := 174) hx hb d_M_nearest_170 (by decide) ?_
                          refine lv_istore (lv' := [(7, .int 1), (0, .ref y), (1, .int px), (2, .int py), (3, .int (nI nn)), (4, .long last), (6, .int lb), (8, .int (nI i)), (9, .long le), (11, .int (nI b))]) hx hb d_M_nearest_174 hl (by decide) rfl (fun ls hl => ?_)
                          refine lv_iload hx hb d_M_nearest_176 (lv_at hl 0 rfl) ?_
                          refine lv_if_eq (tgt := 210) hx hb d_M_nearest_178 (by decide) (fun c_178 => ?_) (fun c_178 => ?_)
                          · exact absurd c_178 (by decide)
                          · refine lv_aload_n hx hb d_M_nearest_181 rfl (lv_at hl 1 rfl) ?_
                            refine gf_M_26 C0 hH hY9 rfl d_M_nearest_182 ?_
                            refine lv_aload_n hx hb d_M_nearest_185 rfl (lv_at hl 1 rfl) ?_
                            refine gf_M_55 C0 hH hY9 rfl d_M_nearest_186 ?_
                            refine lv_iload hx hb d_M_nearest_189 (lv_at hl 7 rfl) ?_
                            refine hd_iast hx hb C0.hK hH hS 0 hR9 rfl (vp_in_nI (by omega) (by omega)) d_M_nearest_191 (fun H locs hH hS => ?_)
                            rw [nI_clamp (by omega)] at hH
                            obtain ⟨w3, ew3⟩ : ∃ z : World, z = va_up w9 aR (some (.inl (G.2.1.1, 4096, .inl (upd rf9 acc.length (nI i))))) := ⟨_, rfl⟩
                            have hH : Hw G w3 H := by rw [ew3]; exact hH
                            have hw3_y : w3 y = some (.inr (3, [.int 0, .ref aT, .ref aX, .ref aY, .ref aU, .ref aV, .int (nI acc.length), .ref aR])) := by rw [ew3, va_up_ne _ _ (wne hY9 hR9 (by simp))]; exact hY9
                            have hw3_aT : w3 aT = some (.inl (G.2.1.2.2.1, 4096, .inl th)) := by rw [ew3, va_up_ne _ _ (n_TR)]; exact hT9
                            have hw3_aX : w3 aX = some (.inl (G.2.1.1, 4096, .inl lx)) := by rw [ew3, va_up_ne _ _ (n_XR)]; exact hX9
                            have hw3_aY : w3 aY = some (.inl (G.2.1.1, 4096, .inl ly)) := by rw [ew3, va_up_ne _ _ (n_YR)]; exact hYy9
                            have hw3_aU : w3 aU = some (.inl (G.2.1.1, 4096, .inl ux)) := by rw [ew3, va_up_ne _ _ (n_UR)]; exact hU99
                            have hw3_aV : w3 aV = some (.inl (G.2.1.1, 4096, .inl uy)) := by rw [ew3, va_up_ne _ _ (n_VR)]; exact hV9
                            have hw3_aR : w3 aR = some (.inl (G.2.1.1, 4096, .inl (upd rf9 acc.length (nI i)))) := by rw [ew3]; exact va_up_self _ _ _
                            refine lv_aload_n hx hb d_M_nearest_192 rfl (lv_at hl 1 rfl) ?_
                            refine lv_dup hx hb d_M_nearest_193 rfl ?_
                            refine gf_M_55 C0 hH hw3_y rfl d_M_nearest_194 ?_
                            refine lv_iconst (v := 1) hx hb d_M_nearest_197 (by decide) ?_
                            refine lv_iadd hx hb d_M_nearest_198 ?_
                            rw [show ((nI acc.length) + 1) = nI (acc.length + 1) from nI_1 _]
                            refine pf_M_55 C0 hH hS hw3_y rfl rfl (Nat.le_of_ble_eq_true rfl) d_M_nearest_199 (fun H locs hH hS => ?_)
                            obtain ⟨w4, ew4⟩ : ∃ z : World, z = va_up w3 y (some (.inr (3, [.int 0, .ref aT, .ref aX, .ref aY, .ref aU, .ref aV, .int (nI (acc.length + 1)), .ref aR]))) := ⟨_, rfl⟩
                            have hH : Hw G w4 H := by rw [ew4]; exact hH
                            have hw4_aT : w4 aT = some (.inl (G.2.1.2.2.1, 4096, .inl th)) := by rw [ew4, va_up_ne _ _ (wne hw3_aT hw3_y (by simp))]; exact hw3_aT
                            have hw4_aX : w4 aX = some (.inl (G.2.1.1, 4096, .inl lx)) := by rw [ew4, va_up_ne _ _ (wne hw3_aX hw3_y (by simp))]; exact hw3_aX
                            have hw4_aY : w4 aY = some (.inl (G.2.1.1, 4096, .inl ly)) := by rw [ew4, va_up_ne _ _ (wne hw3_aY hw3_y (by simp))]; exact hw3_aY
                            have hw4_aU : w4 aU = some (.inl (G.2.1.1, 4096, .inl ux)) := by rw [ew4, va_up_ne _ _ (wne hw3_aU hw3_y (by simp))]; exact hw3_aU
                            have hw4_aV : w4 aV = some (.inl (G.2.1.1, 4096, .inl uy)) := by rw [ew4, va_up_ne _ _ (wne hw3_aV hw3_y (by simp))]; exact hw3_aV
                            have hw4_aR : w4 aR = some (.inl (G.2.1.1, 4096, .inl (upd rf9 acc.length (nI i)))) := by rw [ew4, va_up_ne _ _ (wne hw3_aR hw3_y (by simp))]; exact hw3_aR
                            have hw4_y : w4 y = some (.inr (3, [.int 0, .ref aT, .ref aX, .ref aY, .ref aU, .ref aV, .int (nI (acc.length + 1)), .ref aR])) := by rw [ew4]; exact va_up_self _ _ _
                            refine lv_lload hx hb d_M_nearest_202 (lv_at hl 8 rfl) ?_
                            refine lv_lstore (lv' := [(4, .long le), (7, .int 1), (0, .ref y), (1, .int px), (2, .int py), (3, .int (nI nn)), (6, .int lb), (8, .int (nI i)), (9, .long le), (11, .int (nI b))]) hx hb d_M_nearest_204 hl (by decide) rfl (fun ls hl => ?_)
                            refine lv_iload hx hb d_M_nearest_206 (lv_at hl 7 rfl) ?_
                            refine lv_istore (lv' := [(6, .int (nI i)), (4, .long le), (7, .int 1), (0, .ref y), (1, .int px), (2, .int py), (3, .int (nI nn)), (8, .int (nI i)), (9, .long le), (11, .int (nI b))]) hx hb d_M_nearest_208 hl (by decide) rfl (fun ls hl => ?_)
                            refine lv_goto (tgt := 52) hx hb d_M_nearest_210 (by decide) ?_
                            refine iho w4 (acc ++ [(nI i, le)]) _ le (nI i) H locs (by rw [List.length_append]; have : [(nI i, le)].length = 1 := rfl; omega) hH hS (by rw [List.length_append]; exact ⟨hw4_y, hw4_aT, hw4_aX, hw4_aY, hw4_aU, hw4_aV, hw4_aR, hDi⟩) (by rw [ew4, ew3]; exact (hK9.ups (Or.inl (by simp))).ups (Or.inl (by simp))) (fun k hk => ?_) (by rw [← hfo, nM, hsc, List.append_assoc]; rfl) ls (lv_sub hl [3, 4, 5, 6, 1, 0, 2] rfl)
                            rw [List.length_append] at hk
                            by_cases g : k < acc.length
                            · rw [List.getElem_append_left g, upd, if_neg (Nat.ne_of_lt g)]; exact hrf k g
                            · have : k = acc.length := by have : [(nI i, le)].length = 1 := rfl; omega
                              subst this
                              rw [upd, if_pos rfl]; simp
                    · exact absurd (show nI 4096 ≤ nI b from nI_le (by omega) (by omega)) c_79
                  | succ v ih =>
                    intro b hb9 bi le o hbo hso ls hl
                    refine lv_iload hx hb d_M_nearest_74 (lv_at hl 9 rfl) ?_
                    refine lv_sipush (v := 4096) hx hb d_M_nearest_76 (by decide) ?_
                    refine lv_icmp_ge (tgt := 164) hx hb d_M_nearest_79 (by decide) (fun c_79 => ?_) (fun c_79 => ?_)
                    · exact absurd c_79 (Int32.not_le.mpr (show nI b < nI 4096 from nI_lt (by omega) (by omega)))
                    · refine lv_aload_n hx hb d_M_nearest_82 rfl (lv_at hl 0 rfl) ?_
                      refine gf_M_7 C0 hH hY9 rfl d_M_nearest_83 ?_
                      refine lv_iload hx hb d_M_nearest_86 (lv_at hl 9 rfl) ?_
                      refine hd_zald hx hb C0.hK hH 2 hT9 rfl (vp_in_nI (by omega) (by omega)) d_M_nearest_88 ?_
                      rw [nI_clamp (by omega)]
                      refine lv_if_eq (tgt := 158) hx hb d_M_nearest_89 (by decide) (fun c_89 => ?_) (fun c_89 => ?_)
                      · obtain ⟨y_1, ey_1⟩ : ∃ z : Int32, z = (nI b) + 1 := ⟨_, rfl⟩
                        refine lv_iinc (v := y_1) (lv' := [(11, .int y_1), (0, .ref y), (1, .int px), (2, .int py), (3, .int (nI nn)), (4, .long last), (6, .int lb), (7, .int 1), (8, .int bi), (9, .long le)]) hx hb d_M_nearest_158 hl (k := 9) rfl (by rw [ey_1]; rfl) (by decide) rfl (fun ls hl => ?_)
                        refine lv_goto (tgt := 74) hx hb d_M_nearest_161 (by decide) ?_
                        rw [show y_1 = nI (b + 1) from by rw [ey_1]; exact nI_1 b] at hl
                        exact ih (b + 1) (by omega) bi le o hbo (by rw [← hso, bl, if_pos c_89]) ls (lv_sub hl [1, 2, 3, 4, 5, 6, 7, 8, 9, 0] rfl)
                      · refine lv_aload_n hx hb d_M_nearest_92 rfl (lv_at hl 0 rfl) ?_
                        refine lv_iload hx hb d_M_nearest_93 (lv_at hl 9 rfl) ?_
                        refine lv_iload_n hx hb d_M_nearest_95 rfl (lv_at hl 1 rfl) ?_
                        refine lv_iload_n hx hb d_M_nearest_96 rfl (lv_at hl 2 rfl) ?_
                        refine pu_v (runV C0 (k_M_away l G w9 hM9 b (by omega) px py) (cs_M_74 C0 ⟨Nat.le_of_ble_eq_true rfl, Nat.le_of_ble_eq_true rfl⟩) hH hS (hd_recv C0.hK hH rfl hY9) rfl hl.1 rfl (lv_room (Nat.le_of_ble_eq_true rfl)) d_M_nearest_97 ⟨by show _ ≤ 0; omega, by show _ ≤ 0; omega⟩) ?_
                        refine lv_lstore (lv' := [(12, .long (bDst (mb lx ly ux uy b) px py)), (0, .ref y), (1, .int px), (2, .int py), (3, .int (nI nn)), (4, .long last), (6, .int lb), (7, .int 1), (8, .int bi), (9, .long le), (11, .int (nI b))]) hx hb d_M_nearest_100 hl (by decide) rfl (fun ls hl => ?_)
                        refine lv_lload hx hb d_M_nearest_102 (lv_at hl 0 rfl) ?_
                        refine lv_lload hx hb d_M_nearest_104 (lv_at hl 5 rfl) ?_
                        refine W.lcmp hx hb d_M_nearest_106 ?_
                        refine lv_if_gt (tgt := 125) hx hb d_M_nearest_107 (by decide) (fun c_107 => ?_) (fun c_107 => ?_)
                        · have hbh : ¬ b01 (bhd px py last lb (mb lx ly ux uy b)) = 0 := fun h => absurd ((b01_t (show bhd px py last lb (mb lx ly ux uy b) from Or.inl ((lg_cmp_gt _ _).mp c_107))).symm.trans h) (by decide)
                          refine lv_iconst (v := 1) hx hb d_M_nearest_125 (by decide) ?_
                          refine lv_goto (tgt := 130) hx hb d_M_nearest_126 (by decide) ?_
                          refine lv_istore (lv' := [(14, .int 1), (12, .long (bDst (mb lx ly ux uy b) px py)), (0, .ref y), (1, .int px), (2, .int py), (3, .int (nI nn)), (4, .long last), (6, .int lb), (7, .int 1), (8, .int bi), (9, .long le), (11, .int (nI b))]) hx hb d_M_nearest_130 hl (by decide) rfl (fun ls hl => ?_)
                          refine lv_iload hx hb d_M_nearest_132 (lv_at hl 0 rfl) ?_
                          refine lv_if_eq (tgt := 158) hx hb d_M_nearest_134 (by decide) (fun c_134 => ?_) (fun c_134 => ?_)
                          · exact absurd c_134 (by decide)
                          · rcases hbo with ⟨hbi, ho⟩ | ⟨i, hi9, hbi, ho⟩
                            · subst hbi
                              refine lv_iload hx hb d_M_nearest_137 (lv_at hl 9 rfl) ?_
                              refine lv_if_lt (tgt := 150) hx hb d_M_nearest_139 (by decide) (fun c_139 => ?_) (fun c_139 => ?_)
                              · refine lv_iload hx hb d_M_nearest_150 (lv_at hl 11 rfl) ?_
                                refine lv_istore (lv' := [(8, .int (nI b)), (14, .int 1), (12, .long (bDst (mb lx ly ux uy b) px py)), (0, .ref y), (1, .int px), (2, .int py), (3, .int (nI nn)), (4, .long last), (6, .int lb), (7, .int 1), (9, .long le), (11, .int (nI b))]) hx hb d_M_nearest_152 hl (by decide) rfl (fun ls hl => ?_)
                                refine lv_lload hx hb d_M_nearest_154 (lv_at hl 2 rfl) ?_
                                refine lv_lstore (lv' := [(9, .long (bDst (mb lx ly ux uy b) px py)), (8, .int (nI b)), (14, .int 1), (12, .long (bDst (mb lx ly ux uy b) px py)), (0, .ref y), (1, .int px), (2, .int py), (3, .int (nI nn)), (4, .long last), (6, .int lb), (7, .int 1), (11, .int (nI b))]) hx hb d_M_nearest_156 hl (by decide) rfl (fun ls hl => ?_)
                                obtain ⟨y_2, ey_2⟩ : ∃ z : Int32, z = (nI b) + 1 := ⟨_, rfl⟩
                                refine lv_iinc (v := y_2) (lv' := [(11, .int y_2), (9, .long (bDst (mb lx ly ux uy b) px py)), (8, .int (nI b)), (14, .int 1), (12, .long (bDst (mb lx ly ux uy b) px py)), (0, .ref y), (1, .int px), (2, .int py), (3, .int (nI nn)), (4, .long last), (6, .int lb), (7, .int 1)]) hx hb d_M_nearest_158 hl (k := 11) rfl (by rw [ey_2]; rfl) (by decide) rfl (fun ls hl => ?_)
                                refine lv_goto (tgt := 74) hx hb d_M_nearest_161 (by decide) ?_
                                rw [show y_2 = nI (b + 1) from by rw [ey_2]; exact nI_1 b] at hl
                                exact ih (b + 1) (by omega) (nI b) (bDst (mb lx ly ux uy b) px py) (some (nI b, bDst (mb lx ly ux uy b) px py)) (Or.inr ⟨b, by omega, rfl, rfl⟩) (by rw [← hso, bl, if_neg c_89]; show _ = scN px py last lb (if b01 (bhd px py last lb (mb lx ly ux uy b)) = 0 then _ else _) _; rw [if_neg hbh, ho]; rfl) ls (lv_sub hl [5, 6, 7, 8, 9, 10, 11, 2, 1, 0] rfl)
                              · exact absurd (by decide) c_139
                            · subst hbi
                              refine lv_iload hx hb d_M_nearest_137 (lv_at hl 9 rfl) ?_
                              refine lv_if_lt (tgt := 150) hx hb d_M_nearest_139 (by decide) (fun c_139 => ?_) (fun c_139 => ?_)
                              · exact absurd c_139 (nI_pos (by omega))
                              · refine lv_lload hx hb d_M_nearest_142 (lv_at hl 1 rfl) ?_
                                refine lv_lload hx hb d_M_nearest_144 (lv_at hl 10 rfl) ?_
                                refine W.lcmp hx hb d_M_nearest_146 ?_
                                refine lv_if_ge (tgt := 158) hx hb d_M_nearest_147 (by decide) (fun c_147 => ?_) (fun c_147 => ?_)
                                · obtain ⟨y_3, ey_3⟩ : ∃ z : Int32, z = (nI b) + 1 := ⟨_, rfl⟩
                                  refine lv_iinc (v := y_3) (lv' := [(11, .int y_3), (14, .int 1), (12, .long (bDst (mb lx ly ux uy b) px py)), (0, .ref y), (1, .int px), (2, .int py), (3, .int (nI nn)), (4, .long last), (6, .int lb), (7, .int 1), (8, .int (nI i)), (9, .long le)]) hx hb d_M_nearest_158 hl (k := 11) rfl (by rw [ey_3]; rfl) (by decide) rfl (fun ls hl => ?_)
                                  refine lv_goto (tgt := 74) hx hb d_M_nearest_161 (by decide) ?_
                                  rw [show y_3 = nI (b + 1) from by rw [ey_3]; exact nI_1 b] at hl
                                  exact ih (b + 1) (by omega) (nI i) le (some (nI i, le)) (Or.inr ⟨i, hi9, rfl, rfl⟩) (by rw [← hso, bl, if_neg c_89]; show _ = scN px py last lb (if b01 (bhd px py last lb (mb lx ly ux uy b)) = 0 then _ else _) _; rw [if_neg hbh, ho]; show _ = scN px py last lb (if bDst (mb lx ly ux uy b) px py < le then _ else _) _; rw [if_neg (i64_nlt.mpr ((lg_cmp_ge _ _).mp c_147))]) ls (lv_sub hl [3, 4, 5, 6, 7, 8, 9, 10, 11, 0] rfl)
                                · refine lv_iload hx hb d_M_nearest_150 (lv_at hl 11 rfl) ?_
                                  refine lv_istore (lv' := [(8, .int (nI b)), (14, .int 1), (12, .long (bDst (mb lx ly ux uy b) px py)), (0, .ref y), (1, .int px), (2, .int py), (3, .int (nI nn)), (4, .long last), (6, .int lb), (7, .int 1), (9, .long le), (11, .int (nI b))]) hx hb d_M_nearest_152 hl (by decide) rfl (fun ls hl => ?_)
                                  refine lv_lload hx hb d_M_nearest_154 (lv_at hl 2 rfl) ?_
                                  refine lv_lstore (lv' := [(9, .long (bDst (mb lx ly ux uy b) px py)), (8, .int (nI b)), (14, .int 1), (12, .long (bDst (mb lx ly ux uy b) px py)), (0, .ref y), (1, .int px), (2, .int py), (3, .int (nI nn)), (4, .long last), (6, .int lb), (7, .int 1), (11, .int (nI b))]) hx hb d_M_nearest_156 hl (by decide) rfl (fun ls hl => ?_)
                                  obtain ⟨y_4, ey_4⟩ : ∃ z : Int32, z = (nI b) + 1 := ⟨_, rfl⟩
                                  refine lv_iinc (v := y_4) (lv' := [(11, .int y_4), (9, .long (bDst (mb lx ly ux uy b) px py)), (8, .int (nI b)), (14, .int 1), (12, .long (bDst (mb lx ly ux uy b) px py)), (0, .ref y), (1, .int px), (2, .int py), (3, .int (nI nn)), (4, .long last), (6, .int lb), (7, .int 1)]) hx hb d_M_nearest_158 hl (k := 11) rfl (by rw [ey_4]; rfl) (by decide) rfl (fun ls hl => ?_)
                                  refine lv_goto (tgt := 74) hx hb d_M_nearest_161 (by decide) ?_
                                  rw [show y_4 = nI (b + 1) from by rw [ey_4]; exact nI_1 b] at hl
                                  exact ih (b + 1) (by omega) (nI b) (bDst (mb lx ly ux uy b) px py) (some (nI b, bDst (mb lx ly ux uy b) px py)) (Or.inr ⟨b, by omega, rfl, rfl⟩) (by rw [← hso, bl, if_neg c_89]; show _ = scN px py last lb (if b01 (bhd px py last lb (mb lx ly ux uy b)) = 0 then _ else _) _; rw [if_neg hbh, ho]; show _ = scN px py last lb (if bDst (mb lx ly ux uy b) px py < le then _ else _) _; rw [if_pos (Classical.byContradiction (fun h => c_147 ((lg_cmp_ge _ _).mpr (i64_nlt.mp h))))]; rfl) ls (lv_sub hl [5, 6, 7, 8, 9, 10, 11, 2, 1, 0] rfl)
                        · refine lv_lload hx hb d_M_nearest_110 (lv_at hl 0 rfl) ?_
                          refine lv_lload hx hb d_M_nearest_112 (lv_at hl 5 rfl) ?_
                          refine W.lcmp hx hb d_M_nearest_114 ?_
                          refine lv_if_ne (tgt := 129) hx hb d_M_nearest_115 (by decide) (fun c_115 => ?_) (fun c_115 => ?_)
                          · have hbh : b01 (bhd px py last lb (mb lx ly ux uy b)) = 0 := b01_f (fun h => h.elim (fun h1 => c_107 ((lg_cmp_gt _ _).mpr h1)) (fun h2 => c_115 ((lg_cmp_eq _ _).mpr h2.1)))
                            refine lv_iconst (v := 0) hx hb d_M_nearest_129 (by decide) ?_
                            refine lv_istore (lv' := [(14, .int 0), (12, .long (bDst (mb lx ly ux uy b) px py)), (0, .ref y), (1, .int px), (2, .int py), (3, .int (nI nn)), (4, .long last), (6, .int lb), (7, .int 1), (8, .int bi), (9, .long le), (11, .int (nI b))]) hx hb d_M_nearest_130 hl (by decide) rfl (fun ls hl => ?_)
                            refine lv_iload hx hb d_M_nearest_132 (lv_at hl 0 rfl) ?_
                            refine lv_if_eq (tgt := 158) hx hb d_M_nearest_134 (by decide) (fun c_134 => ?_) (fun c_134 => ?_)
                            · obtain ⟨y_5, ey_5⟩ : ∃ z : Int32, z = (nI b) + 1 := ⟨_, rfl⟩
                              refine lv_iinc (v := y_5) (lv' := [(11, .int y_5), (14, .int 0), (12, .long (bDst (mb lx ly ux uy b) px py)), (0, .ref y), (1, .int px), (2, .int py), (3, .int (nI nn)), (4, .long last), (6, .int lb), (7, .int 1), (8, .int bi), (9, .long le)]) hx hb d_M_nearest_158 hl (k := 11) rfl (by rw [ey_5]; rfl) (by decide) rfl (fun ls hl => ?_)
                              refine lv_goto (tgt := 74) hx hb d_M_nearest_161 (by decide) ?_
                              rw [show y_5 = nI (b + 1) from by rw [ey_5]; exact nI_1 b] at hl
                              exact ih (b + 1) (by omega) bi le o hbo (by rw [← hso, bl, if_neg c_89]; show _ = scN px py last lb (if b01 (bhd px py last lb (mb lx ly ux uy b)) = 0 then _ else _) _; rw [if_pos hbh]) ls (lv_sub hl [3, 4, 5, 6, 7, 8, 9, 10, 11, 0] rfl)
                            · exact absurd rfl c_134
                          · refine lv_iload hx hb d_M_nearest_118 (lv_at hl 10 rfl) ?_
                            refine lv_iload hx hb d_M_nearest_120 (lv_at hl 6 rfl) ?_
                            refine lv_icmp_le (tgt := 129) hx hb d_M_nearest_122 (by decide) (fun c_122 => ?_) (fun c_122 => ?_)
                            · have hbh : b01 (bhd px py last lb (mb lx ly ux uy b)) = 0 := b01_f (fun h => h.elim (fun h1 => c_107 ((lg_cmp_gt _ _).mpr h1)) (fun h2 => absurd h2.2 (Int32.not_lt.mpr c_122)))
                              refine lv_iconst (v := 0) hx hb d_M_nearest_129 (by decide) ?_
                              refine lv_istore (lv' := [(14, .int 0), (12, .long (bDst (mb lx ly ux uy b) px py)), (0, .ref y), (1, .int px), (2, .int py), (3, .int (nI nn)), (4, .long last), (6, .int lb), (7, .int 1), (8, .int bi), (9, .long le), (11, .int (nI b))]) hx hb d_M_nearest_130 hl (by decide) rfl (fun ls hl => ?_)
                              refine lv_iload hx hb d_M_nearest_132 (lv_at hl 0 rfl) ?_
                              refine lv_if_eq (tgt := 158) hx hb d_M_nearest_134 (by decide) (fun c_134 => ?_) (fun c_134 => ?_)
                              · obtain ⟨y_6, ey_6⟩ : ∃ z : Int32, z = (nI b) + 1 := ⟨_, rfl⟩
                                refine lv_iinc (v := y_6) (lv' := [(11, .int y_6), (14, .int 0), (12, .long (bDst (mb lx ly ux uy b) px py)), (0, .ref y), (1, .int px), (2, .int py), (3, .int (nI nn)), (4, .long last), (6, .int lb), (7, .int 1), (8, .int bi), (9, .long le)]) hx hb d_M_nearest_158 hl (k := 11) rfl (by rw [ey_6]; rfl) (by decide) rfl (fun ls hl => ?_)
                                refine lv_goto (tgt := 74) hx hb d_M_nearest_161 (by decide) ?_
                                rw [show y_6 = nI (b + 1) from by rw [ey_6]; exact nI_1 b] at hl
                                exact ih (b + 1) (by omega) bi le o hbo (by rw [← hso, bl, if_neg c_89]; show _ = scN px py last lb (if b01 (bhd px py last lb (mb lx ly ux uy b)) = 0 then _ else _) _; rw [if_pos hbh]) ls (lv_sub hl [3, 4, 5, 6, 7, 8, 9, 10, 11, 0] rfl)
                              · exact absurd rfl c_134
                            · have hbh : ¬ b01 (bhd px py last lb (mb lx ly ux uy b)) = 0 := fun h => absurd ((b01_t (show bhd px py last lb (mb lx ly ux uy b) from Or.inr ⟨(lg_cmp_eq _ _).mp c_115, Int32.not_le.mp c_122⟩)).symm.trans h) (by decide)
                              refine lv_iconst (v := 1) hx hb d_M_nearest_125 (by decide) ?_
                              refine lv_goto (tgt := 130) hx hb d_M_nearest_126 (by decide) ?_
                              refine lv_istore (lv' := [(14, .int 1), (12, .long (bDst (mb lx ly ux uy b) px py)), (0, .ref y), (1, .int px), (2, .int py), (3, .int (nI nn)), (4, .long last), (6, .int lb), (7, .int 1), (8, .int bi), (9, .long le), (11, .int (nI b))]) hx hb d_M_nearest_130 hl (by decide) rfl (fun ls hl => ?_)
                              refine lv_iload hx hb d_M_nearest_132 (lv_at hl 0 rfl) ?_
                              refine lv_if_eq (tgt := 158) hx hb d_M_nearest_134 (by decide) (fun c_134 => ?_) (fun c_134 => ?_)
                              · exact absurd c_134 (by decide)
                              · rcases hbo with ⟨hbi, ho⟩ | ⟨i, hi9, hbi, ho⟩
                                · subst hbi
                                  refine lv_iload hx hb d_M_nearest_137 (lv_at hl 9 rfl) ?_
                                  refine lv_if_lt (tgt := 150) hx hb d_M_nearest_139 (by decide) (fun c_139 => ?_) (fun c_139 => ?_)
                                  · refine lv_iload hx hb d_M_nearest_150 (lv_at hl 11 rfl) ?_
                                    refine lv_istore (lv' := [(8, .int (nI b)), (14, .int 1), (12, .long (bDst (mb lx ly ux uy b) px py)), (0, .ref y), (1, .int px), (2, .int py), (3, .int (nI nn)), (4, .long last), (6, .int lb), (7, .int 1), (9, .long le), (11, .int (nI b))]) hx hb d_M_nearest_152 hl (by decide) rfl (fun ls hl => ?_)
                                    refine lv_lload hx hb d_M_nearest_154 (lv_at hl 2 rfl) ?_
                                    refine lv_lstore (lv' := [(9, .long (bDst (mb lx ly ux uy b) px py)), (8, .int (nI b)), (14, .int 1), (12, .long (bDst (mb lx ly ux uy b) px py)), (0, .ref y), (1, .int px), (2, .int py), (3, .int (nI nn)), (4, .long last), (6, .int lb), (7, .int 1), (11, .int (nI b))]) hx hb d_M_nearest_156 hl (by decide) rfl (fun ls hl => ?_)
                                    obtain ⟨y_7, ey_7⟩ : ∃ z : Int32, z = (nI b) + 1 := ⟨_, rfl⟩
                                    refine lv_iinc (v := y_7) (lv' := [(11, .int y_7), (9, .long (bDst (mb lx ly ux uy b) px py)), (8, .int (nI b)), (14, .int 1), (12, .long (bDst (mb lx ly ux uy b) px py)), (0, .ref y), (1, .int px), (2, .int py), (3, .int (nI nn)), (4, .long last), (6, .int lb), (7, .int 1)]) hx hb d_M_nearest_158 hl (k := 11) rfl (by rw [ey_7]; rfl) (by decide) rfl (fun ls hl => ?_)
                                    refine lv_goto (tgt := 74) hx hb d_M_nearest_161 (by decide) ?_
                                    rw [show y_7 = nI (b + 1) from by rw [ey_7]; exact nI_1 b] at hl
                                    exact ih (b + 1) (by omega) (nI b) (bDst (mb lx ly ux uy b) px py) (some (nI b, bDst (mb lx ly ux uy b) px py)) (Or.inr ⟨b, by omega, rfl, rfl⟩) (by rw [← hso, bl, if_neg c_89]; show _ = scN px py last lb (if b01 (bhd px py last lb (mb lx ly ux uy b)) = 0 then _ else _) _; rw [if_neg hbh, ho]; rfl) ls (lv_sub hl [5, 6, 7, 8, 9, 10, 11, 2, 1, 0] rfl)
                                  · exact absurd (by decide) c_139
                                · subst hbi
                                  refine lv_iload hx hb d_M_nearest_137 (lv_at hl 9 rfl) ?_
                                  refine lv_if_lt (tgt := 150) hx hb d_M_nearest_139 (by decide) (fun c_139 => ?_) (fun c_139 => ?_)
                                  · exact absurd c_139 (nI_pos (by omega))
                                  · refine lv_lload hx hb d_M_nearest_142 (lv_at hl 1 rfl) ?_
                                    refine lv_lload hx hb d_M_nearest_144 (lv_at hl 10 rfl) ?_
                                    refine W.lcmp hx hb d_M_nearest_146 ?_
                                    refine lv_if_ge (tgt := 158) hx hb d_M_nearest_147 (by decide) (fun c_147 => ?_) (fun c_147 => ?_)
                                    · obtain ⟨y_8, ey_8⟩ : ∃ z : Int32, z = (nI b) + 1 := ⟨_, rfl⟩
                                      refine lv_iinc (v := y_8) (lv' := [(11, .int y_8), (14, .int 1), (12, .long (bDst (mb lx ly ux uy b) px py)), (0, .ref y), (1, .int px), (2, .int py), (3, .int (nI nn)), (4, .long last), (6, .int lb), (7, .int 1), (8, .int (nI i)), (9, .long le)]) hx hb d_M_nearest_158 hl (k := 11) rfl (by rw [ey_8]; rfl) (by decide) rfl (fun ls hl => ?_)
                                      refine lv_goto (tgt := 74) hx hb d_M_nearest_161 (by decide) ?_
                                      rw [show y_8 = nI (b + 1) from by rw [ey_8]; exact nI_1 b] at hl
                                      exact ih (b + 1) (by omega) (nI i) le (some (nI i, le)) (Or.inr ⟨i, hi9, rfl, rfl⟩) (by rw [← hso, bl, if_neg c_89]; show _ = scN px py last lb (if b01 (bhd px py last lb (mb lx ly ux uy b)) = 0 then _ else _) _; rw [if_neg hbh, ho]; show _ = scN px py last lb (if bDst (mb lx ly ux uy b) px py < le then _ else _) _; rw [if_neg (i64_nlt.mpr ((lg_cmp_ge _ _).mp c_147))]) ls (lv_sub hl [3, 4, 5, 6, 7, 8, 9, 10, 11, 0] rfl)
                                    · refine lv_iload hx hb d_M_nearest_150 (lv_at hl 11 rfl) ?_
                                      refine lv_istore (lv' := [(8, .int (nI b)), (14, .int 1), (12, .long (bDst (mb lx ly ux uy b) px py)), (0, .ref y), (1, .int px), (2, .int py), (3, .int (nI nn)), (4, .long last), (6, .int lb), (7, .int 1), (9, .long le), (11, .int (nI b))]) hx hb d_M_nearest_152 hl (by decide) rfl (fun ls hl => ?_)
                                      refine lv_lload hx hb d_M_nearest_154 (lv_at hl 2 rfl) ?_
                                      refine lv_lstore (lv' := [(9, .long (bDst (mb lx ly ux uy b) px py)), (8, .int (nI b)), (14, .int 1), (12, .long (bDst (mb lx ly ux uy b) px py)), (0, .ref y), (1, .int px), (2, .int py), (3, .int (nI nn)), (4, .long last), (6, .int lb), (7, .int 1), (11, .int (nI b))]) hx hb d_M_nearest_156 hl (by decide) rfl (fun ls hl => ?_)
                                      obtain ⟨y_9, ey_9⟩ : ∃ z : Int32, z = (nI b) + 1 := ⟨_, rfl⟩
                                      refine lv_iinc (v := y_9) (lv' := [(11, .int y_9), (9, .long (bDst (mb lx ly ux uy b) px py)), (8, .int (nI b)), (14, .int 1), (12, .long (bDst (mb lx ly ux uy b) px py)), (0, .ref y), (1, .int px), (2, .int py), (3, .int (nI nn)), (4, .long last), (6, .int lb), (7, .int 1)]) hx hb d_M_nearest_158 hl (k := 11) rfl (by rw [ey_9]; rfl) (by decide) rfl (fun ls hl => ?_)
                                      refine lv_goto (tgt := 74) hx hb d_M_nearest_161 (by decide) ?_
                                      rw [show y_9 = nI (b + 1) from by rw [ey_9]; exact nI_1 b] at hl
                                      exact ih (b + 1) (by omega) (nI b) (bDst (mb lx ly ux uy b) px py) (some (nI b, bDst (mb lx ly ux uy b) px py)) (Or.inr ⟨b, by omega, rfl, rfl⟩) (by rw [← hso, bl, if_neg c_89]; show _ = scN px py last lb (if b01 (bhd px py last lb (mb lx ly ux uy b)) = 0 then _ else _) _; rw [if_neg hbh, ho]; show _ = scN px py last lb (if bDst (mb lx ly ux uy b) px py < le then _ else _) _; rw [if_pos (Classical.byContradiction (fun h => c_147 ((lg_cmp_ge _ _).mpr (i64_nlt.mp h))))]; rfl) ls (lv_sub hl [5, 6, 7, 8, 9, 10, 11, 2, 1, 0] rfl)
                exact loopI 4096 0 rfl (-1) 0 none (Or.inl ⟨rfl, rfl⟩) rfl ls (lv_sub hl [3, 4, 5, 6, 7, 8, 9, 2, 1, 0] rfl)
        exact loopO nn w2 [] rf (-1) (-1) H locs (by simp) hH hS hM1 hK1 (fun i h => absurd h (Nat.not_lt_zero _)) rfl ls (lv_sub hl [3, 4, 5, 6, 2, 1, 0] rfl)
      · exact absurd (b01_f (fun q => q hp9.2)) c_27

set_option maxHeartbeats 4000000 in
set_option maxRecDepth 100000 in
theorem k_M_nearest1 (l : Launch) (G : Gl) (w : World) {y aT aX aY aU aV aR sz : Nat} {tc : Int32} {th lx ly ux uy rf : Nat → Int32} (hM : MAt G w y aT aX aY aU aV aR tc th lx ly ux uy sz rf) (px py n : Int32) (hn9 : ¬ (okM n ∧ okP px py)) :
    GnI l y_M_nearest ws_M_nearest 4 0 0 G w [.ref y, .int px, .int py, .int n] (fun r w1 => r = 0 ∧ MDo G w w1 y aT aX aY aU aV aR 1 th lx ly ux uy sz rf) := by
  refine met_ent (by decide +kernel) (Nat.le_of_ble_eq_true rfl) (fun p e s m below meth c ls C0 hr hin hH hl => ?_)
  have hx := C0.1
  have hb := C0.2.1
  have hS : va_S (gA G) s.heap s.heap [] := va_S.rf
  have hA : ∀ q : Nat, s.heap.size ≤ q → gA G q := fun q h => Nat.le_trans C0.ev.2.2.2.2.2.2.2.2.2.2.2.2 h
  have hl : lv_has ls 15 [(0, .ref y), (1, .int px), (2, .int py), (3, .int n)] := hl
  obtain ⟨hY, hT, hX, hYy, hU9, hV, hR, hDi⟩ := id hM
  obtain ⟨n_TX, n_TY, n_TU, n_TV, n_TR, n_XY, n_XU, n_XV, n_XR, n_YU, n_YV, n_YR, n_UV, n_UR, n_VR⟩ := id hDi
  refine lv_aload_n hx hb d_M_nearest_0 rfl (lv_at hl 0 rfl) ?_
  refine lv_iconst (v := 0) hx hb d_M_nearest_1 (by decide) ?_
  refine pf_M_29 C0 hH hS hY rfl rfl (Nat.le_of_ble_eq_true rfl) d_M_nearest_2 (fun H locs hH hS => ?_)
  obtain ⟨w1, ew1⟩ : ∃ z : World, z = va_up w y (some (.inr (3, [.int 0, .ref aT, .ref aX, .ref aY, .ref aU, .ref aV, .int (nI sz), .ref aR]))) := ⟨_, rfl⟩
  have hH : Hw G w1 H := by rw [ew1]; exact hH
  have hw1_aT : w1 aT = some (.inl (G.2.1.2.2.1, 4096, .inl th)) := by rw [ew1, va_up_ne _ _ (wne hT hY (by simp))]; exact hT
  have hw1_aX : w1 aX = some (.inl (G.2.1.1, 4096, .inl lx)) := by rw [ew1, va_up_ne _ _ (wne hX hY (by simp))]; exact hX
  have hw1_aY : w1 aY = some (.inl (G.2.1.1, 4096, .inl ly)) := by rw [ew1, va_up_ne _ _ (wne hYy hY (by simp))]; exact hYy
  have hw1_aU : w1 aU = some (.inl (G.2.1.1, 4096, .inl ux)) := by rw [ew1, va_up_ne _ _ (wne hU9 hY (by simp))]; exact hU9
  have hw1_aV : w1 aV = some (.inl (G.2.1.1, 4096, .inl uy)) := by rw [ew1, va_up_ne _ _ (wne hV hY (by simp))]; exact hV
  have hw1_aR : w1 aR = some (.inl (G.2.1.1, 4096, .inl rf)) := by rw [ew1, va_up_ne _ _ (wne hR hY (by simp))]; exact hR
  have hw1_y : w1 y = some (.inr (3, [.int 0, .ref aT, .ref aX, .ref aY, .ref aU, .ref aV, .int (nI sz), .ref aR])) := by rw [ew1]; exact va_up_self _ _ _
  refine lv_iload_n hx hb d_M_nearest_5 rfl (lv_at hl 3 rfl) ?_
  refine lv_iconst (v := 1) hx hb d_M_nearest_6 (by decide) ?_
  refine lv_sipush (v := 4096) hx hb d_M_nearest_7 (by decide) ?_
  refine pu_v (runS C0 (k_M_within l G w1 n 1 4096) (cs_M_35 C0 ⟨Nat.le_of_ble_eq_true rfl, Nat.le_of_ble_eq_true rfl⟩) hH hS rfl hl.1 rfl (lv_room (Nat.le_of_ble_eq_true rfl)) d_M_nearest_10 ⟨by show _ ≤ 0; omega, by show _ ≤ 0; omega⟩) ?_
  refine lv_if_eq (tgt := 30) hx hb d_M_nearest_13 (by decide) (fun c_13 => ?_) (fun c_13 => ?_)
  · refine lv_aload_n hx hb d_M_nearest_30 rfl (lv_at hl 0 rfl) ?_
    refine lv_iconst (v := 1) hx hb d_M_nearest_31 (by decide) ?_
    refine gn_i (runV C0 (k_M_fail l G w1 1 hw1_y) (cs_M_43 C0 ⟨Nat.le_of_ble_eq_true rfl, Nat.le_of_ble_eq_true rfl⟩) hH hS (hd_recv C0.hK hH rfl hw1_y) rfl hl.1 rfl (lv_room (Nat.le_of_ble_eq_true rfl)) d_M_nearest_32 ⟨by show _ ≤ 0; omega, by show _ ≤ 0; omega⟩) hS (fun r2 w2 H locs hp2 hH hS => ?_)
    obtain ⟨rfl, ew2⟩ := hp2
    have hF9 := (show MAt G w1 y aT aX aY aU aV aR 0 th lx ly ux uy sz rf from ⟨hw1_y, hw1_aT, hw1_aX, hw1_aY, hw1_aU, hw1_aV, hw1_aR, hDi⟩).tc ew2
    have hK9 : Kp w w2 [y, aT, aX, aY, aU, aV, aR] := by rw [ew2, ew1]; exact (Kp.up (Or.inl (by simp))).ups (Or.inl (by simp))
    refine W.widen (k := 0) (n := 0) (by omega) (by omega) ?_
    exact W.iret hx hb hr (fun t ht hW => ⟨⟨0, w2, rfl, ⟨rfl, hF9, hK9⟩, Wo.at C0.ev hH hS ht hW⟩, hS.F ht⟩) hS.2.2 d_M_nearest_35 (hlocks := C0.2.2.2.2.2.2)
  · refine lv_iload_n hx hb d_M_nearest_16 rfl (lv_at hl 1 rfl) ?_
    refine pu_v (runS C0 (k_M_isFar l G w1 px) (cs_M_39 C0 ⟨Nat.le_of_ble_eq_true rfl, Nat.le_of_ble_eq_true rfl⟩) hH hS rfl hl.1 rfl (lv_room (Nat.le_of_ble_eq_true rfl)) d_M_nearest_17 ⟨by show _ ≤ 0; omega, by show _ ≤ 0; omega⟩) ?_
    refine lv_if_ne (tgt := 30) hx hb d_M_nearest_20 (by decide) (fun c_20 => ?_) (fun c_20 => ?_)
    · refine lv_aload_n hx hb d_M_nearest_30 rfl (lv_at hl 0 rfl) ?_
      refine lv_iconst (v := 1) hx hb d_M_nearest_31 (by decide) ?_
      refine gn_i (runV C0 (k_M_fail l G w1 1 hw1_y) (cs_M_43 C0 ⟨Nat.le_of_ble_eq_true rfl, Nat.le_of_ble_eq_true rfl⟩) hH hS (hd_recv C0.hK hH rfl hw1_y) rfl hl.1 rfl (lv_room (Nat.le_of_ble_eq_true rfl)) d_M_nearest_32 ⟨by show _ ≤ 0; omega, by show _ ≤ 0; omega⟩) hS (fun r3 w3 H locs hp3 hH hS => ?_)
      obtain ⟨rfl, ew3⟩ := hp3
      have hF9 := (show MAt G w1 y aT aX aY aU aV aR 0 th lx ly ux uy sz rf from ⟨hw1_y, hw1_aT, hw1_aX, hw1_aY, hw1_aU, hw1_aV, hw1_aR, hDi⟩).tc ew3
      have hK9 : Kp w w3 [y, aT, aX, aY, aU, aV, aR] := by rw [ew3, ew1]; exact (Kp.up (Or.inl (by simp))).ups (Or.inl (by simp))
      refine W.widen (k := 0) (n := 0) (by omega) (by omega) ?_
      exact W.iret hx hb hr (fun t ht hW => ⟨⟨0, w3, rfl, ⟨rfl, hF9, hK9⟩, Wo.at C0.ev hH hS ht hW⟩, hS.F ht⟩) hS.2.2 d_M_nearest_35 (hlocks := C0.2.2.2.2.2.2)
    · refine lv_iload_n hx hb d_M_nearest_23 rfl (lv_at hl 2 rfl) ?_
      refine pu_v (runS C0 (k_M_isFar l G w1 py) (cs_M_39 C0 ⟨Nat.le_of_ble_eq_true rfl, Nat.le_of_ble_eq_true rfl⟩) hH hS rfl hl.1 rfl (lv_room (Nat.le_of_ble_eq_true rfl)) d_M_nearest_24 ⟨by show _ ≤ 0; omega, by show _ ≤ 0; omega⟩) ?_
      refine lv_if_eq (tgt := 36) hx hb d_M_nearest_27 (by decide) (fun c_27 => ?_) (fun c_27 => ?_)
      · exact absurd ⟨Classical.byContradiction (fun q => c_13 (b01_f q)), Classical.byContradiction (fun q => absurd ((b01_t q).symm.trans c_20) (by decide)), Classical.byContradiction (fun q => absurd ((b01_t q).symm.trans c_27) (by decide))⟩ hn9
      · refine lv_aload_n hx hb d_M_nearest_30 rfl (lv_at hl 0 rfl) ?_
        refine lv_iconst (v := 1) hx hb d_M_nearest_31 (by decide) ?_
        refine gn_i (runV C0 (k_M_fail l G w1 1 hw1_y) (cs_M_43 C0 ⟨Nat.le_of_ble_eq_true rfl, Nat.le_of_ble_eq_true rfl⟩) hH hS (hd_recv C0.hK hH rfl hw1_y) rfl hl.1 rfl (lv_room (Nat.le_of_ble_eq_true rfl)) d_M_nearest_32 ⟨by show _ ≤ 0; omega, by show _ ≤ 0; omega⟩) hS (fun r4 w4 H locs hp4 hH hS => ?_)
        obtain ⟨rfl, ew4⟩ := hp4
        have hF9 := (show MAt G w1 y aT aX aY aU aV aR 0 th lx ly ux uy sz rf from ⟨hw1_y, hw1_aT, hw1_aX, hw1_aY, hw1_aU, hw1_aV, hw1_aR, hDi⟩).tc ew4
        have hK9 : Kp w w4 [y, aT, aX, aY, aU, aV, aR] := by rw [ew4, ew1]; exact (Kp.up (Or.inl (by simp))).ups (Or.inl (by simp))
        refine W.widen (k := 0) (n := 0) (by omega) (by omega) ?_
        exact W.iret hx hb hr (fun t ht hW => ⟨⟨0, w4, rfl, ⟨rfl, hF9, hK9⟩, Wo.at C0.ev hH hS ht hW⟩, hS.F ht⟩) hS.2.2 d_M_nearest_35 (hlocks := C0.2.2.2.2.2.2)
