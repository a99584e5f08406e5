/-! the list's own writes: set, add, remove, clear -/
abbrev ob (N : Nat) (f : Nat → Option Nat) : Nat × (Nat → Option Nat) := (N, f)

set_option maxHeartbeats 4000000 in
set_option maxRecDepth 100000 in
theorem k_A_set (l : Launch) (G : Gl) (w : World) {L E N k : Nat} {md : Int32} {f : Nat → Option Nat} (hL : w L = some (.inr (0, [.int md, .ref E, .int (nI k)]))) (hE : w E = some (.inl (G.2.1.2.2.2, N, .inr (.inr (.inr (.inr f)))))) (hk : k ≤ N) (hN : N ≤ 100000) {b : Nat} {v1 v2 v3 v4 v5 : Value} (hb9 : w b = some (.inr (1, [v1, v2, v3, v4, v5]))) {i x : Nat} (hi : i < k) (hf : f i = some x) :
    GnQ l y_A_set ws_A_set 2 0 0 G w [.ref L, .int (nI i), .ref b] (fun r w1 => r = some x ∧ w1 = va_up w E (some (.inl (G.2.1.2.2.2, N, .inr (.inr (.inr (.inr (va_up f i (some b))))))))) := by
  refine met_ent (by decide +kernel) (Nat.le_of_ble_eq_true rfl) (fun p e s m below meth c ls C0 hr hin hH hl => ?_)
  have hx := C0.1
  have hb := C0.2.1
  have hS : va_S (gA G) s.heap s.heap [] := va_S.rf
  have hA : ∀ q : Nat, s.heap.size ≤ q → gA G q := fun q h => Nat.le_trans C0.ev.2.2.2.2.2.2.2.2.2.2.2.2 h
  have hl : lv_has ls 4 [(0, .ref L), (1, .int (nI i)), (2, .ref b)] := hl
  refine lv_iload_n hx hb d_A_set_0 rfl (lv_at hl 1 rfl) ?_
  refine lv_aload_n hx hb d_A_set_1 rfl (lv_at hl 0 rfl) ?_
  refine gf_A_48 C0 hH hL rfl d_A_set_2 ?_
  refine pu_v (runS C0 (k_O_checkIndex l G w (nI_pos (by omega)) (nI_lt hi (by omega))) (cs_A_118 C0 ⟨Nat.le_of_ble_eq_true rfl, Nat.le_of_ble_eq_true rfl⟩) hH hS rfl hl.1 rfl (lv_room (Nat.le_of_ble_eq_true rfl)) d_A_set_5 ⟨by show _ ≤ 0; omega, by show _ ≤ 0; omega⟩) ?_
  refine lv_pop hx hb d_A_set_8 rfl ?_
  refine lv_aload_n hx hb d_A_set_9 rfl (lv_at hl 0 rfl) ?_
  refine lv_iload_n hx hb d_A_set_10 rfl (lv_at hl 1 rfl) ?_
  refine pu_v (runV C0 (k_A_elementData l G w hL hE (by omega) (by omega) hf) (cs_A_123 C0 ⟨Nat.le_of_ble_eq_true rfl, Nat.le_of_ble_eq_true rfl⟩) hH hS (hd_recv C0.hK hH rfl hL) rfl hl.1 rfl (lv_room (Nat.le_of_ble_eq_true rfl)) d_A_set_11 ⟨by show _ ≤ 0; omega, by show _ ≤ 0; omega⟩) ?_
  refine lv_astore_n (lv' := [(3, .ref x), (0, .ref L), (1, .int (nI i)), (2, .ref b)]) hx hb d_A_set_14 rfl hl (by decide) rfl (fun ls hl => ?_)
  refine lv_aload_n hx hb d_A_set_15 rfl (lv_at hl 1 rfl) ?_
  refine gf_A_9 C0 hH hL rfl d_A_set_16 ?_
  refine lv_iload_n hx hb d_A_set_19 rfl (lv_at hl 2 rfl) ?_
  refine lv_aload_n hx hb d_A_set_20 rfl (lv_at hl 3 rfl) ?_
  refine hd_astqO (r := ("BoxDrawer$Box", TX, 5)) hx hb C0.hK hH hS 3 1 hE rfl (C0.ev.2.2.2.2.2.2.1 (Cond.castable "BoxDrawer$Box" "java/lang/Object") (by decide +kernel)) hb9 rfl (vp_in_nI (by omega) (by omega)) d_A_set_21 (fun H locs hH hS => ?_)
  rw [nI_clamp (by omega)] at hH
  obtain ⟨w1, ew1⟩ : ∃ z : World, z = va_up w E (some (.inl (G.2.1.2.2.2, N, .inr (.inr (.inr (.inr (va_up f i (some b)))))))) := ⟨_, rfl⟩
  have hH : Hw G w1 H := by rw [ew1]; exact hH
  have hw1_L : w1 L = some (.inr (0, [.int md, .ref E, .int (nI k)])) := by rw [ew1, va_up_ne _ _ (wne hL hE (by simp))]; exact hL
  have hw1_b : w1 b = some (.inr (1, [v1, v2, v3, v4, v5])) := by rw [ew1, va_up_ne _ _ (wne hb9 hE (by simp))]; exact hb9
  have hw1_E : w1 E = some (.inl (G.2.1.2.2.2, N, .inr (.inr (.inr (.inr (va_up f i (some b))))))) := by rw [ew1]; exact va_up_self _ _ _
  refine lv_aload_n hx hb d_A_set_22 rfl (lv_at hl 0 rfl) ?_
  refine W.widen (k := 0) (n := 0) (by omega) (by omega) ?_
  exact W.aret hx hb hr (Or.inl ⟨_, rfl⟩) (Or.inr ⟨_, rfl⟩) (fun t ht hW => ⟨⟨some x, w1, rfl, ⟨rfl, ew1⟩, Wo.at C0.ev hH hS ht hW⟩, hS.F ht⟩) hS.2.2 d_A_set_23 (hlocks := C0.2.2.2.2.2.2)

set_option maxHeartbeats 4000000 in
set_option maxRecDepth 100000 in
theorem k_A_rangeCheckForAdd (l : Launch) (G : Gl) (w : World) {L E k i : Nat} {md : Int32} (hL : w L = some (.inr (0, [.int md, .ref E, .int (nI k)]))) (hi : i ≤ k) (hk : k ≤ 100000) :
    PuM l y_A_rangeCheckForAdd ws_A_rangeCheckForAdd 0 G w [.ref L, .int (nI i)] none := by
  refine met_ent (by decide +kernel) (Nat.le_of_ble_eq_true rfl) (fun p e s m below meth c ls C0 hr hin hH hl => ?_)
  have hx := C0.1
  have hb := C0.2.1
  have hS : va_S (gA G) s.heap s.heap [] := va_S.rf
  have hl : lv_has ls 2 [(0, .ref L), (1, .int (nI i))] := hl
  refine lv_iload_n hx hb d_A_rangeCheckForAdd_0 rfl (lv_at hl 1 rfl) ?_
  refine lv_aload_n hx hb d_A_rangeCheckForAdd_1 rfl (lv_at hl 0 rfl) ?_
  refine gf_A_48 C0 hH hL rfl d_A_rangeCheckForAdd_2 ?_
  refine lv_icmp_gt (tgt := 12) hx hb d_A_rangeCheckForAdd_5 (by decide) (fun c_5 => ?_) (fun c_5 => ?_)
  · exact absurd c_5 (nI_nlt hi (by omega))
  · refine lv_iload_n hx hb d_A_rangeCheckForAdd_8 rfl (lv_at hl 1 rfl) ?_
    refine lv_if_ge (tgt := 25) hx hb d_A_rangeCheckForAdd_9 (by decide) (fun c_9 => ?_) (fun c_9 => ?_)
    · exact W.vret hx hb hr (fun t ht _ => ⟨rfl, ht⟩) (fun _ h => by cases h) d_A_rangeCheckForAdd_25 (hlocks := C0.2.2.2.2.2.2)
    · exact absurd (nI_pos' (by omega)) c_9

set_option maxHeartbeats 4000000 in
set_option maxRecDepth 100000 in
theorem k_S_newLength (l : Launch) (G : Gl) (w : World) (a b c9 : Nat) (h1 : 0 < a) (ha : a ≤ 100000) (hb9 : b ≤ 100000) (hc : c9 ≤ 100000) :
    PuM l y_S_newLength ws_S_newLength 1 G w [.int (nI a), .int (nI b), .int (nI c9)] (some (.int (nI (a + max b c9)))) := by
  refine met_ent (by decide +kernel) (Nat.le_of_ble_eq_true rfl) (fun p e s m below meth c ls C0 hr hin hH hl => ?_)
  have hx := C0.1
  have hb := C0.2.1
  have hS : va_S (gA G) s.heap s.heap [] := va_S.rf
  have hA : ∀ q : Nat, s.heap.size ≤ q → gA G q := fun q h => Nat.le_trans C0.ev.2.2.2.2.2.2.2.2.2.2.2.2 h
  have hl : lv_has ls 4 [(0, .int (nI a)), (1, .int (nI b)), (2, .int (nI c9))] := hl
  refine lv_iload_n hx hb d_S_newLength_0 rfl (lv_at hl 0 rfl) ?_
  refine lv_iload_n hx hb d_S_newLength_1 rfl (lv_at hl 1 rfl) ?_
  refine lv_iload_n hx hb d_S_newLength_2 rfl (lv_at hl 2 rfl) ?_
  refine va_mmax hx hb (C0.2.2.1.trans hl.1.symm) C0.2.2.2.1 (C0.2.2.2.2.1 _ mw_347) (C0.2.2.2.2.1 _ mw_119) (C0.2.2.2.2.1 _ mw_19) (C0.2.2.2.2.1 _ mw_120) (Nat.le_of_ble_eq_true rfl) (Nat.le_of_ble_eq_true rfl) (by show _ ≤ 0; omega) (by show _ ≤ 0; omega) d_S_newLength_3 ?_
  rw [show (if (nI b) < (nI c9) then (nI c9) else (nI b)) = nI (max b c9) from max_nI (by omega) (by omega)]
  refine lv_iadd hx hb d_S_newLength_6 ?_
  rw [show ((nI a) + (nI (max b c9))) = nI (a + max b c9) from nI_add a (max b c9)]
  refine lv_istore_n (lv' := [(3, .int (nI (a + max b c9))), (0, .int (nI a)), (1, .int (nI b)), (2, .int (nI c9))]) hx hb d_S_newLength_7 rfl hl (by decide) rfl (fun ls hl => ?_)
  refine lv_iconst (v := 0) hx hb d_S_newLength_8 (by decide) ?_
  refine lv_iload_n hx hb d_S_newLength_9 rfl (lv_at hl 0 rfl) ?_
  refine lv_icmp_ge (tgt := 21) hx hb d_S_newLength_10 (by decide) (fun c_10 => ?_) (fun c_10 => ?_)
  · exact absurd c_10 (Int32.not_le.mpr (show nI 0 < nI (a + max b c9) from nI_lt (by omega) (by omega)))
  · refine lv_iload_n hx hb d_S_newLength_13 rfl (lv_at hl 0 rfl) ?_
    refine W.eq (g2 := F0 m 14 ls _) rfl (W.ldc hx hb C0.2.2.2.1 (C0.2.2.2.2.1 _ mw_348) rfl d_S_newLength_14 ?_)
    refine W.eq (g2 := F0 m 16 ls [.int 2147483639, .int (nI (a + max b c9))]) rfl ?_
    refine lv_icmp_gt (tgt := 21) hx hb d_S_newLength_16 (by decide) (fun c_16 => ?_) (fun c_16 => ?_)
    · exact absurd c_16 (show ¬ nI 2147483639 < nI (a + max b c9) from nI_nlt (by omega) (by decide))
    · refine lv_iload_n hx hb d_S_newLength_19 rfl (lv_at hl 0 rfl) ?_
      exact W.iret hx hb hr (fun t ht _ => ⟨rfl, ht⟩) (fun _ h => by cases h) d_S_newLength_20 (hlocks := C0.2.2.2.2.2.2)

set_option maxHeartbeats 4000000 in
set_option maxRecDepth 100000 in
theorem k_R_copyOf4 (l : Launch) (G : Gl) (w : World) {a N : Nat} {f : Nat → Option Nat} (c1 : Nat) (ha : w a = some (.inl (G.2.1.2.2.2, N, .inr (.inr (.inr (.inr f)))))) (hq : ∀ j : Nat, j < N → ∃ (y : Nat) (vs : List Value), f j = some y ∧ w y = some (.inr (1, vs))) (h1 : N < c1) (h2 : c1 ≤ 200000) :
    GnQ l y_R_copyOf4 ws_R_copyOf4 1 1 c1 G w [.ref a, .int (nI c1), .ref (gmi G)] (fun r w1 => ∃ q : Nat, r = some q ∧ w q = none ∧ w1 = va_up w q (some (.inl (G.2.1.2.2.2, c1, .inr (.inr (.inr (.inr (va_cpy f (fun _ => none) 0 0 N)))))))) := by
  refine met_ent (by decide +kernel) (Nat.le_of_ble_eq_true rfl) (fun p e s m below meth c ls C0 hr hin hH hl => ?_)
  have hx := C0.1
  have hb := C0.2.1
  have hS : va_S (gA G) s.heap s.heap [] := va_S.rf
  have hA : ∀ q : Nat, s.heap.size ≤ q → gA G q := fun q h => Nat.le_trans C0.ev.2.2.2.2.2.2.2.2.2.2.2.2 h
  have hl : lv_has ls 4 [(0, .ref a), (1, .int (nI c1)), (2, .ref (gmi G))] := hl
  refine lv_aload_n hx hb d_R_copyOf4_0 rfl (lv_at hl 2 rfl) ?_
  refine va_ldcM hx hb C0.2.2.2.1 (C0.2.2.2.2.1 _ mw_558) C0.ev.2.2.2.2.2.2.2.2.1 d_R_copyOf4_1 ?_
  refine lv_acmp_ne (rx := some (gmi G)) (ry := some (gmi G)) (tgt := 13) hx hb d_R_copyOf4_3 (by decide) (fun h => absurd rfl h) (fun _ => ?_)
  refine lv_iload_n hx hb d_R_copyOf4_6 rfl (lv_at hl 1 rfl) ?_
  refine hd_newq (N' := c1) hx hb C0.2.2.2.1 (C0.2.2.2.2.1 _ mw_560) C0.ev.2.2.2.2.2.2.2.1 C0.hK 3 rfl hH hS hA (nI_pos (by omega)) (nI_clamp (by omega)) (by omega) (by show _ ≤ 1; omega) (by show _ ≤ c1; omega) d_R_copyOf4_7 (fun q7 H hnq7 hH hS => ?_)
  obtain ⟨w1, ew1⟩ : ∃ z : World, z = va_up w q7 (some (.inl (G.2.1.2.2.2, c1, .inr (.inr (.inr (.inr (fun _ => none))))))) := ⟨_, rfl⟩
  have hH : Hw G w1 H := by rw [ew1]; exact hH
  have hw1_a : w1 a = some (.inl (G.2.1.2.2.2, N, .inr (.inr (.inr (.inr f))))) := by rw [ew1, va_up_ne _ _ (wnf ha hnq7)]; exact ha
  have hw1_q7 : w1 q7 = some (.inl (G.2.1.2.2.2, c1, .inr (.inr (.inr (.inr (fun _ => none)))))) := by rw [ew1]; exact va_up_self _ _ _
  have hqw1_0 : ∀ j : Nat, j < N → ∃ (y : Nat) (vs : List Value), f j = some y ∧ w1 y = some (.inr (1, vs)) := fun j hj => by obtain ⟨y, vs, g1, g2⟩ := hq j hj; exact ⟨y, vs, g1, by rw [ew1, va_up_ne _ _ (wnf g2 hnq7)]; exact g2⟩
  refine lv_goto (tgt := 24) hx hb d_R_copyOf4_10 (by decide) ?_
  refine lv_astore_n (lv' := [(3, .ref q7), (0, .ref a), (1, .int (nI c1)), (2, .ref (gmi G))]) hx hb d_R_copyOf4_24 rfl hl (by decide) rfl (fun ls hl => ?_)
  refine lv_aload_n hx hb d_R_copyOf4_25 rfl (lv_at hl 1 rfl) ?_
  refine lv_iconst (v := 0) hx hb d_R_copyOf4_26 (by decide) ?_
  refine lv_aload_n hx hb d_R_copyOf4_27 rfl (lv_at hl 0 rfl) ?_
  refine lv_iconst (v := 0) hx hb d_R_copyOf4_28 (by decide) ?_
  refine lv_aload_n hx hb d_R_copyOf4_29 rfl (lv_at hl 1 rfl) ?_
  refine hd_alen hx hb C0.hK hH 3 hw1_a rfl (v := nI N) rfl d_R_copyOf4_30 ?_
  refine lv_iload_n hx hb d_R_copyOf4_31 rfl (lv_at hl 2 rfl) ?_
  refine va_mmin hx hb (C0.2.2.1.trans hl.1.symm) C0.2.2.2.1 (C0.2.2.2.2.1 _ mw_134) (C0.2.2.2.2.1 _ mw_122) (C0.2.2.2.2.1 _ mw_19) (C0.2.2.2.2.1 _ mw_123) (Nat.le_of_ble_eq_true rfl) (Nat.le_of_ble_eq_true rfl) (by show _ ≤ 1; omega) (by show _ ≤ c1; omega) d_R_copyOf4_32 ?_
  rw [show (if (nI c1) < (nI N) then (nI c1) else (nI N)) = nI N from ((min_nI (by omega) (by omega)).trans (by rw [Nat.min_eq_left (by omega)]))]
  refine hd_copyq (r := ("BoxDrawer$Box", TX, 5)) hx hb (C0.2.2.1.trans hl.1.symm) C0.2.2.2.1 (C0.2.2.2.2.1 _ mw_135) (C0.2.2.2.2.1 _ mw_137) (C0.2.2.2.2.1 _ mw_136) (C0.2.2.2.2.1 _ mw_21) C0.hK hH hS 3 1 hw1_a hw1_q7 rfl (C0.ev.2.2.2.2.2.2.1 (Cond.castable "BoxDrawer$Box" "java/lang/Object") (by decide +kernel)) rfl (by decide) (by decide) (nI_pos (by omega)) (by rw [nI_clamp (by omega), sb_cl0]; omega) (by rw [nI_clamp (by omega), sb_cl0]; omega) (fun i hi y hy => by rw [nI_clamp (by omega)] at hi; rw [sb_cl0, Nat.zero_add] at hy; obtain ⟨y2, vs, g1, g2⟩ := hqw1_0 i hi; rw [g1] at hy; cases hy; exact ⟨vs, g2⟩) (Nat.le_of_ble_eq_true rfl) (Nat.le_of_ble_eq_true rfl) d_R_copyOf4_35 (fun H locs hH hS => ?_)
  rw [nI_clamp (by omega), sb_cl0] at hH
  obtain ⟨w2, ew2⟩ : ∃ z : World, z = va_up w1 q7 (some (.inl (G.2.1.2.2.2, c1, .inr (.inr (.inr (.inr (va_cpy f (fun _ => none) 0 0 N))))))) := ⟨_, rfl⟩
  have hH : Hw G w2 H := by rw [ew2]; exact hH
  have hw2_a : w2 a = some (.inl (G.2.1.2.2.2, N, .inr (.inr (.inr (.inr f))))) := by rw [ew2, va_up_ne _ _ (wnf ha hnq7)]; exact hw1_a
  have hw2_q7 : w2 q7 = some (.inl (G.2.1.2.2.2, c1, .inr (.inr (.inr (.inr (va_cpy f (fun _ => none) 0 0 N)))))) := by rw [ew2]; exact va_up_self _ _ _
  have hqw2_0 : ∀ j : Nat, j < N → ∃ (y : Nat) (vs : List Value), f j = some y ∧ w2 y = some (.inr (1, vs)) := fun j hj => by obtain ⟨y, vs, g1, g2⟩ := hqw1_0 j hj; exact ⟨y, vs, g1, by rw [ew2, va_up_ne _ _ (wne g2 hw1_q7 (by simp))]; exact g2⟩
  refine lv_aload_n hx hb d_R_copyOf4_38 rfl (lv_at hl 0 rfl) ?_
  refine W.widen (k := 1) (n := c1) (by omega) (by omega) ?_
  exact W.aret hx hb hr (Or.inr ⟨_, rfl⟩) (Or.inr ⟨_, rfl⟩) (fun t ht hW => ⟨⟨some q7, w2, rfl, ⟨_, rfl, hnq7, by rw [ew2, ew1, bx_uu]⟩, Wo.at C0.ev hH hS ht hW⟩, hS.F ht⟩) hS.2.2 d_R_copyOf4_39 (hlocks := C0.2.2.2.2.2.2)

set_option maxHeartbeats 4000000 in
set_option maxRecDepth 100000 in
theorem k_R_copyOf3 (l : Launch) (G : Gl) (w : World) {a N : Nat} {f : Nat → Option Nat} (c1 : Nat) (ha : w a = some (.inl (G.2.1.2.2.2, N, .inr (.inr (.inr (.inr f)))))) (hq : ∀ j : Nat, j < N → ∃ (y : Nat) (vs : List Value), f j = some y ∧ w y = some (.inr (1, vs))) (h1 : N < c1) (h2 : c1 ≤ 200000) :
    GnQ l y_R_copyOf3 ws_R_copyOf3 2 1 c1 G w [.ref a, .int (nI c1)] (fun r w1 => ∃ q : Nat, r = some q ∧ w q = none ∧ w1 = va_up w q (some (.inl (G.2.1.2.2.2, c1, .inr (.inr (.inr (.inr (va_cpy f (fun _ => none) 0 0 N)))))))) := by
  refine met_ent (by decide +kernel) (Nat.le_of_ble_eq_true rfl) (fun p e s m below meth c ls C0 hr hin hH hl => ?_)
  have hx := C0.1
  have hb := C0.2.1
  have hS : va_S (gA G) s.heap s.heap [] := va_S.rf
  have hA : ∀ q : Nat, s.heap.size ≤ q → gA G q := fun q h => Nat.le_trans C0.ev.2.2.2.2.2.2.2.2.2.2.2.2 h
  have hl : lv_has ls 2 [(0, .ref a), (1, .int (nI c1))] := hl
  refine lv_aload_n hx hb d_R_copyOf3_0 rfl (lv_at hl 0 rfl) ?_
  refine lv_iload_n hx hb d_R_copyOf3_1 rfl (lv_at hl 1 rfl) ?_
  refine lv_aload_n hx hb d_R_copyOf3_2 rfl (lv_at hl 0 rfl) ?_
  refine va_getC hx hb (C0.2.2.1.trans hl.1.symm) C0.2.2.2.1 (C0.2.2.2.2.1 _ mw_542) (va_Dc.use C0.ev.2.2.2.2.2.2.2.2.2.1) (C0.2.2.2.2.1 _ mw_826) (C0.2.2.2.2.1 _ mw_543) (C0.2.2.2.2.1 _ mw_554) C0.ev.2.2.2.2.2.2.2.2.1 ⟨_, hH.at ha, rfl, va_nmO (C0.hK.2 3 _ rfl).2 rfl⟩ (Nat.le_of_ble_eq_true rfl) (Nat.le_of_ble_eq_true rfl) d_R_copyOf3_3 ?_
  refine gn_q (runS C0 (k_R_copyOf4 l G w c1 ha hq h1 h2) (cs_R_300 C0 ⟨Nat.le_of_ble_eq_true rfl, Nat.le_of_ble_eq_true rfl⟩) hH hS rfl hl.1 rfl (lv_room (Nat.le_of_ble_eq_true rfl)) d_R_copyOf3_6 ⟨by show _ ≤ 1; omega, by show _ ≤ c1; omega⟩) hS (fun r1 w1 H locs hp1 hH hS => ?_)
  obtain ⟨q9, rfl, hnq9, ew1⟩ := hp1
  refine W.widen (k := 1) (n := c1) (by omega) (by omega) ?_
  exact W.aret hx hb hr (Or.inr ⟨_, rfl⟩) (Or.inr ⟨_, rfl⟩) (fun t ht hW => ⟨⟨some q9, w1, rfl, ⟨q9, rfl, hnq9, ew1⟩, Wo.at C0.ev hH hS ht hW⟩, hS.F ht⟩) hS.2.2 d_R_copyOf3_9 (hlocks := C0.2.2.2.2.2.2)
