/-! remove, clear -/
theorem rem_f {f : Nat → Option Nat} {i k : Nat} (hi : i < k) : (∀ j : Nat, j < i → va_up (va_cpy f f (i + 1) i (k - 1 - i)) (k - 1) none j = f j) ∧ ∀ j : Nat, i ≤ j → j < k - 1 → va_up (va_cpy f f (i + 1) i (k - 1 - i)) (k - 1) none j = f (j + 1) := by
  refine ⟨fun j hj => ?_, fun j h1 h2 => ?_⟩
  · rw [va_up_ne _ _ (by omega), pk_cpy_out (by omega)]
  · rw [va_up_ne _ _ (by omega), pk_cpy_in (by omega) (by omega), show i + 1 + (j - i) = j + 1 by omega]
theorem rem_f0 {f : Nat → Option Nat} {i k : Nat} (hi : i + 1 = k) : (∀ j : Nat, j < i → va_up f (k - 1) none j = f j) ∧ ∀ j : Nat, i ≤ j → j < k - 1 → va_up f (k - 1) none j = f (j + 1) :=
  ⟨fun j hj => va_up_ne _ _ (by omega), fun j h1 h2 => absurd h1 (by omega)⟩
/-- an emptied list -/
def ClrQ (G : Gl) (w w1 : World) (L E N : Nat) (f : Nat → Option Nat) : Prop := ∃ (f1 : Nat → Option Nat) (md1 : Int32), w1 L = some (.inr (0, [.int md1, .ref E, .int (nI 0)])) ∧ ((E = ge0 G ∧ N = 0) ∨ w1 E = some (.inl (G.2.1.2.2.2, N, .inr (.inr (.inr (.inr f1)))))) ∧ Kp w w1 [L, E]

set_option maxHeartbeats 4000000 in
set_option maxRecDepth 100000 in
theorem k_A_fastRemove (l : Launch) (G : Gl) (w : World) {L E N k : Nat} {md : Int32} {f : Nat → Option Nat} (hL : w L = some (.inr (0, [.int md, .ref E, .int (nI k)]))) (hE : w E = some (.inl (G.2.1.2.2.2, N, .inr (.inr (.inr (.inr f)))))) (hk : k ≤ N) (hN : N ≤ 100000) (hq : ∀ j : Nat, j < k → ∃ (y : Nat) (vs : List Value), f j = some y ∧ w y = some (.inr (1, vs))) {i : Nat} (hi : i < k) :
    GnV l y_A_fastRemove ws_A_fastRemove 1 0 0 G w [.ref L, .ref E, .int (nI i)] (fun w1 => RemQ G w w1 L E i k N f) := by
  refine met_ent (by decide +kernel) (Nat.le_of_ble_eq_true rfl) (fun p e s m below meth c ls C0 hr hin hH hl => ?_)
  have hx := C0.1
  have hb := C0.2.1
  have hS : va_S (gA G) s.heap s.heap [] := va_S.rf
  have hA : ∀ q : Nat, s.heap.size ≤ q → gA G q := fun q h => Nat.le_trans C0.ev.2.2.2.2.2.2.2.2.2.2.2.2 h
  have hl : lv_has ls 4 [(0, .ref L), (1, .ref E), (2, .int (nI i))] := hl
  refine lv_aload_n hx hb d_A_fastRemove_0 rfl (lv_at hl 0 rfl) ?_
  refine lv_dup hx hb d_A_fastRemove_1 rfl ?_
  refine gf_A_63 C0 hH hL rfl d_A_fastRemove_2 ?_
  refine lv_iconst (v := 1) hx hb d_A_fastRemove_5 (by decide) ?_
  refine lv_iadd hx hb d_A_fastRemove_6 ?_
  refine pf_A_63 C0 hH hS hL rfl rfl (Nat.le_of_ble_eq_true rfl) d_A_fastRemove_7 (fun H locs hH hS => ?_)
  obtain ⟨w1, ew1⟩ : ∃ z : World, z = va_up w L (some (.inr (0, [.int (md + 1), .ref E, .int (nI k)]))) := ⟨_, rfl⟩
  have hH : Hw G w1 H := by rw [ew1]; exact hH
  have hw1_E : w1 E = some (.inl (G.2.1.2.2.2, N, .inr (.inr (.inr (.inr f))))) := by rw [ew1, va_up_ne _ _ (wne hE hL (by simp))]; exact hE
  have hw1_L : w1 L = some (.inr (0, [.int (md + 1), .ref E, .int (nI k)])) := by rw [ew1]; exact va_up_self _ _ _
  have hqw1_0 : ∀ j : Nat, j < k → ∃ (y : Nat) (vs : List Value), f j = some y ∧ w1 y = some (.inr (1, vs)) := fun j hj => by obtain ⟨y, vs, g1, g2⟩ := hq j hj; exact ⟨y, vs, g1, by rw [ew1, va_up_ne _ _ (wne g2 hL (by simp))]; exact g2⟩
  refine lv_aload_n hx hb d_A_fastRemove_10 rfl (lv_at hl 0 rfl) ?_
  refine gf_A_48 C0 hH hw1_L rfl d_A_fastRemove_11 ?_
  refine lv_iconst (v := 1) hx hb d_A_fastRemove_14 (by decide) ?_
  refine lv_isub hx hb d_A_fastRemove_15 ?_
  rw [show ((nI k) - 1) = nI (k - 1) from pk_sub (show 1 ≤ k by omega)]
  refine lv_dup hx hb d_A_fastRemove_16 rfl ?_
  refine lv_istore_n (lv' := [(3, .int (nI (k - 1))), (0, .ref L), (1, .ref E), (2, .int (nI i))]) hx hb d_A_fastRemove_17 rfl hl (by decide) rfl (fun ls hl => ?_)
  refine lv_iload_n hx hb d_A_fastRemove_18 rfl (lv_at hl 3 rfl) ?_
  refine lv_icmp_le (tgt := 34) hx hb d_A_fastRemove_19 (by decide) (fun c_19 => ?_) (fun c_19 => ?_)
  · have hge : k - 1 ≤ i := Nat.le_of_not_lt (fun h => absurd c_19 (Int32.not_le.mpr (nI_lt h (by omega))))
    refine lv_aload_n hx hb d_A_fastRemove_34 rfl (lv_at hl 2 rfl) ?_
    refine lv_aload_n hx hb d_A_fastRemove_35 rfl (lv_at hl 1 rfl) ?_
    refine lv_iload_n hx hb d_A_fastRemove_36 rfl (lv_at hl 0 rfl) ?_
    refine lv_dup_x1 hx hb d_A_fastRemove_37 rfl rfl ?_
    refine pf_A_48 C0 hH hS hw1_L rfl rfl (Nat.le_of_ble_eq_true rfl) d_A_fastRemove_38 (fun H locs hH hS => ?_)
    obtain ⟨w2, ew2⟩ : ∃ z : World, z = va_up w1 L (some (.inr (0, [.int (md + 1), .ref E, .int (nI (k - 1))]))) := ⟨_, rfl⟩
    have hH : Hw G w2 H := by rw [ew2]; exact hH
    have hw2_E : w2 E = some (.inl (G.2.1.2.2.2, N, .inr (.inr (.inr (.inr f))))) := by rw [ew2, va_up_ne _ _ (wne hw1_E hw1_L (by simp))]; exact hw1_E
    have hw2_L : w2 L = some (.inr (0, [.int (md + 1), .ref E, .int (nI (k - 1))])) := by rw [ew2]; exact va_up_self _ _ _
    have hqw2_0 : ∀ j : Nat, j < k → ∃ (y : Nat) (vs : List Value), f j = some y ∧ w2 y = some (.inr (1, vs)) := fun j hj => by obtain ⟨y, vs, g1, g2⟩ := hqw1_0 j hj; exact ⟨y, vs, g1, by rw [ew2, va_up_ne _ _ (wne g2 hw1_L (by simp))]; exact g2⟩
    refine lv_null hx hb d_A_fastRemove_41 ?_
    refine hd_astqN hx hb C0.hK hH hS 3 hw2_E rfl (vp_in_nI (by omega) (by omega)) d_A_fastRemove_42 (fun H locs hH hS => ?_)
    rw [nI_clamp (by omega)] at hH
    obtain ⟨w3, ew3⟩ : ∃ z : World, z = va_up w2 E (some (.inl (G.2.1.2.2.2, N, .inr (.inr (.inr (.inr (va_up f (k - 1) none))))))) := ⟨_, rfl⟩
    have hH : Hw G w3 H := by rw [ew3]; exact hH
    have hw3_L : w3 L = some (.inr (0, [.int (md + 1), .ref E, .int (nI (k - 1))])) := by rw [ew3, va_up_ne _ _ (wne hw2_L hw2_E (by simp))]; exact hw2_L
    have hw3_E : w3 E = some (.inl (G.2.1.2.2.2, N, .inr (.inr (.inr (.inr (va_up f (k - 1) none)))))) := by rw [ew3]; exact va_up_self _ _ _
    have hqw3_0 : ∀ j : Nat, j < k → ∃ (y : Nat) (vs : List Value), f j = some y ∧ w3 y = some (.inr (1, vs)) := fun j hj => by obtain ⟨y, vs, g1, g2⟩ := hqw2_0 j hj; exact ⟨y, vs, g1, by rw [ew3, va_up_ne _ _ (wne g2 hw2_E (by simp))]; exact g2⟩
    refine W.widen (k := 0) (n := 0) (by omega) (by omega) ?_
    exact W.vret hx hb hr (fun t ht hW => ⟨⟨w3, rfl, ⟨_, _, hw3_L, hw3_E, (rem_f0 (by omega)).1, (rem_f0 (by omega)).2, by rw [ew3, ew2, ew1]; exact ((Kp.up (Or.inl (by simp))).ups (Or.inl (by simp))).ups (Or.inl (by simp))⟩, Wo.at C0.ev hH hS ht hW⟩, hS.F ht⟩) hS.2.2 d_A_fastRemove_43 (hlocks := C0.2.2.2.2.2.2)
  · have hlt : i < k - 1 := Nat.not_le.mp (fun h => c_19 (nI_le h (by omega)))
    refine lv_aload_n hx hb d_A_fastRemove_22 rfl (lv_at hl 2 rfl) ?_
    refine lv_iload_n hx hb d_A_fastRemove_23 rfl (lv_at hl 3 rfl) ?_
    refine lv_iconst (v := 1) hx hb d_A_fastRemove_24 (by decide) ?_
    refine lv_iadd hx hb d_A_fastRemove_25 ?_
    rw [show ((nI i) + 1) = nI (i + 1) from nI_1 i]
    refine lv_aload_n hx hb d_A_fastRemove_26 rfl (lv_at hl 2 rfl) ?_
    refine lv_iload_n hx hb d_A_fastRemove_27 rfl (lv_at hl 3 rfl) ?_
    refine lv_iload_n hx hb d_A_fastRemove_28 rfl (lv_at hl 0 rfl) ?_
    refine lv_iload_n hx hb d_A_fastRemove_29 rfl (lv_at hl 3 rfl) ?_
    refine lv_isub hx hb d_A_fastRemove_30 ?_
    rw [show ((nI (k - 1)) - (nI i)) = nI (k - 1 - i) from pk_sub (by omega)]
    refine hd_copyq (r := ("BoxDrawer$Box", TX, 5)) hx hb (C0.2.2.1.trans hl.1.symm) C0.2.2.2.1 (C0.2.2.2.2.1 _ mw_563) (C0.2.2.2.2.1 _ mw_137) (C0.2.2.2.2.1 _ mw_136) (C0.2.2.2.2.1 _ mw_21) C0.hK hH hS 3 1 hw1_E hw1_E rfl (C0.ev.2.2.2.2.2.2.1 (Cond.castable "BoxDrawer$Box" "java/lang/Object") (by decide +kernel)) rfl (nI_pos (by omega)) (nI_pos (by omega)) (nI_pos (by omega)) (by rw [nI_clamp (by omega), nI_clamp (by omega)]; omega) (by rw [nI_clamp (by omega), nI_clamp (by omega)]; omega) (fun j hj y hy => by rw [nI_clamp (by omega)] at hj hy; obtain ⟨y2, vs, g1, g2⟩ := hqw1_0 (i + 1 + j) (by omega); rw [g1] at hy; cases hy; exact ⟨vs, g2⟩) (Nat.le_of_ble_eq_true rfl) (Nat.le_of_ble_eq_true rfl) d_A_fastRemove_31 (fun H locs hH hS => ?_)
    rw [nI_clamp (by omega), nI_clamp (by omega), nI_clamp (by omega)] at hH
    obtain ⟨w4, ew4⟩ : ∃ z : World, z = va_up w1 E (some (.inl (G.2.1.2.2.2, N, .inr (.inr (.inr (.inr (va_cpy f f (i + 1) i (k - 1 - i)))))))) := ⟨_, rfl⟩
    have hH : Hw G w4 H := by rw [ew4]; exact hH
    have hw4_L : w4 L = some (.inr (0, [.int (md + 1), .ref E, .int (nI k)])) := by rw [ew4, va_up_ne _ _ (wne hw1_L hw1_E (by simp))]; exact hw1_L
    have hw4_E : w4 E = some (.inl (G.2.1.2.2.2, N, .inr (.inr (.inr (.inr (va_cpy f f (i + 1) i (k - 1 - i))))))) := by rw [ew4]; exact va_up_self _ _ _
    have hqw4_0 : ∀ j : Nat, j < k → ∃ (y : Nat) (vs : List Value), f j = some y ∧ w4 y = some (.inr (1, vs)) := fun j hj => by obtain ⟨y, vs, g1, g2⟩ := hqw1_0 j hj; exact ⟨y, vs, g1, by rw [ew4, va_up_ne _ _ (wne g2 hw1_E (by simp))]; exact g2⟩
    refine lv_aload_n hx hb d_A_fastRemove_34 rfl (lv_at hl 2 rfl) ?_
    refine lv_aload_n hx hb d_A_fastRemove_35 rfl (lv_at hl 1 rfl) ?_
    refine lv_iload_n hx hb d_A_fastRemove_36 rfl (lv_at hl 0 rfl) ?_
    refine lv_dup_x1 hx hb d_A_fastRemove_37 rfl rfl ?_
    refine pf_A_48 C0 hH hS hw4_L rfl rfl (Nat.le_of_ble_eq_true rfl) d_A_fastRemove_38 (fun H locs hH hS => ?_)
    obtain ⟨w5, ew5⟩ : ∃ z : World, z = va_up w4 L (some (.inr (0, [.int (md + 1), .ref E, .int (nI (k - 1))]))) := ⟨_, rfl⟩
    have hH : Hw G w5 H := by rw [ew5]; exact hH
    have hw5_E : w5 E = some (.inl (G.2.1.2.2.2, N, .inr (.inr (.inr (.inr (va_cpy f f (i + 1) i (k - 1 - i))))))) := by rw [ew5, va_up_ne _ _ (wne hw4_E hw4_L (by simp))]; exact hw4_E
    have hw5_L : w5 L = some (.inr (0, [.int (md + 1), .ref E, .int (nI (k - 1))])) := by rw [ew5]; exact va_up_self _ _ _
    have hqw5_0 : ∀ j : Nat, j < k → ∃ (y : Nat) (vs : List Value), f j = some y ∧ w5 y = some (.inr (1, vs)) := fun j hj => by obtain ⟨y, vs, g1, g2⟩ := hqw4_0 j hj; exact ⟨y, vs, g1, by rw [ew5, va_up_ne _ _ (wne g2 hw4_L (by simp))]; exact g2⟩
    refine lv_null hx hb d_A_fastRemove_41 ?_
    refine hd_astqN hx hb C0.hK hH hS 3 hw5_E rfl (vp_in_nI (by omega) (by omega)) d_A_fastRemove_42 (fun H locs hH hS => ?_)
    rw [nI_clamp (by omega)] at hH
    obtain ⟨w6, ew6⟩ : ∃ z : World, z = va_up w5 E (some (.inl (G.2.1.2.2.2, N, .inr (.inr (.inr (.inr (va_up (va_cpy f f (i + 1) i (k - 1 - i)) (k - 1) none))))))) := ⟨_, rfl⟩
    have hH : Hw G w6 H := by rw [ew6]; exact hH
    have hw6_L : w6 L = some (.inr (0, [.int (md + 1), .ref E, .int (nI (k - 1))])) := by rw [ew6, va_up_ne _ _ (wne hw5_L hw5_E (by simp))]; exact hw5_L
    have hw6_E : w6 E = some (.inl (G.2.1.2.2.2, N, .inr (.inr (.inr (.inr (va_up (va_cpy f f (i + 1) i (k - 1 - i)) (k - 1) none)))))) := by rw [ew6]; exact va_up_self _ _ _
    have hqw6_0 : ∀ j : Nat, j < k → ∃ (y : Nat) (vs : List Value), f j = some y ∧ w6 y = some (.inr (1, vs)) := fun j hj => by obtain ⟨y, vs, g1, g2⟩ := hqw5_0 j hj; exact ⟨y, vs, g1, by rw [ew6, va_up_ne _ _ (wne g2 hw5_E (by simp))]; exact g2⟩
    refine W.widen (k := 0) (n := 0) (by omega) (by omega) ?_
    exact W.vret hx hb hr (fun t ht hW => ⟨⟨w6, rfl, ⟨_, _, hw6_L, hw6_E, (rem_f hi).1, (rem_f hi).2, by rw [ew6, ew5, ew4, ew1]; exact (((Kp.up (Or.inl (by simp))).ups (Or.inl (by simp))).ups (Or.inl (by simp))).ups (Or.inl (by simp))⟩, Wo.at C0.ev hH hS ht hW⟩, hS.F ht⟩) hS.2.2 d_A_fastRemove_43 (hlocks := C0.2.2.2.2.2.2)

set_option maxHeartbeats 4000000 in
set_option maxRecDepth 100000 in
theorem k_A_remove (l : Launch) (G : Gl) (w : World) {L E N k : Nat} {md : Int32} {f : Nat → Option Nat} (hL : w L = some (.inr (0, [.int md, .ref E, .int (nI k)]))) (hE : w E = some (.inl (G.2.1.2.2.2, N, .inr (.inr (.inr (.inr f)))))) (hk : k ≤ N) (hN : N ≤ 100000) (hq : ∀ j : Nat, j < k → ∃ (y : Nat) (vs : List Value), f j = some y ∧ w y = some (.inr (1, vs))) {i y : Nat} (hi : i < k) (hy : f i = some y) :
    GnQ l y_A_remove ws_A_remove 2 0 0 G w [.ref L, .int (nI i)] (fun r w1 => r = some y ∧ RemQ G w w1 L E i k N f) := by
  refine met_ent (by decide +kernel) (Nat.le_of_ble_eq_true rfl) (fun p e s m below meth c ls C0 hr hin hH hl => ?_)
  have hx := C0.1
  have hb := C0.2.1
  have hS : va_S (gA G) s.heap s.heap [] := va_S.rf
  have hA : ∀ q : Nat, s.heap.size ≤ q → gA G q := fun q h => Nat.le_trans C0.ev.2.2.2.2.2.2.2.2.2.2.2.2 h
  have hl : lv_has ls 4 [(0, .ref L), (1, .int (nI i))] := hl
  refine lv_iload_n hx hb d_A_remove_0 rfl (lv_at hl 1 rfl) ?_
  refine lv_aload_n hx hb d_A_remove_1 rfl (lv_at hl 0 rfl) ?_
  refine gf_A_48 C0 hH hL rfl d_A_remove_2 ?_
  refine pu_v (runS C0 (k_O_checkIndex l G w (nI_pos (by omega)) (nI_lt hi (by omega))) (cs_A_118 C0 ⟨Nat.le_of_ble_eq_true rfl, Nat.le_of_ble_eq_true rfl⟩) hH hS rfl hl.1 rfl (lv_room (Nat.le_of_ble_eq_true rfl)) d_A_remove_5 ⟨by show _ ≤ 0; omega, by show _ ≤ 0; omega⟩) ?_
  refine lv_pop hx hb d_A_remove_8 rfl ?_
  refine lv_aload_n hx hb d_A_remove_9 rfl (lv_at hl 0 rfl) ?_
  refine gf_A_9 C0 hH hL rfl d_A_remove_10 ?_
  refine lv_astore_n (lv' := [(2, .ref E), (0, .ref L), (1, .int (nI i))]) hx hb d_A_remove_13 rfl hl (by decide) rfl (fun ls hl => ?_)
  refine lv_aload_n hx hb d_A_remove_14 rfl (lv_at hl 0 rfl) ?_
  refine lv_iload_n hx hb d_A_remove_15 rfl (lv_at hl 2 rfl) ?_
  refine hd_aldq hx hb C0.hK hH 3 hE rfl (vp_in_nI (by omega) (by omega)) d_A_remove_16 ?_
  rw [nI_clamp (by omega), hy]
  refine lv_astore_n (lv' := [(3, .ref y), (2, .ref E), (0, .ref L), (1, .int (nI i))]) hx hb d_A_remove_17 rfl hl (by decide) rfl (fun ls hl => ?_)
  refine lv_aload_n hx hb d_A_remove_18 rfl (lv_at hl 2 rfl) ?_
  refine lv_aload_n hx hb d_A_remove_19 rfl (lv_at hl 1 rfl) ?_
  refine lv_iload_n hx hb d_A_remove_20 rfl (lv_at hl 3 rfl) ?_
  refine gn_v (runV C0 (k_A_fastRemove l G w hL hE hk hN hq hi) (cs_A_144 C0 ⟨Nat.le_of_ble_eq_true rfl, Nat.le_of_ble_eq_true rfl⟩) hH hS (hd_recv C0.hK hH rfl hL) rfl hl.1 rfl (lv_room (Nat.le_of_ble_eq_true rfl)) d_A_remove_21 ⟨by show _ ≤ 0; omega, by show _ ≤ 0; omega⟩) hS (fun w1 H locs hp1 hH hS => ?_)
  refine lv_aload_n hx hb d_A_remove_24 rfl (lv_at hl 0 rfl) ?_
  refine W.widen (k := 0) (n := 0) (by omega) (by omega) ?_
  exact W.aret hx hb hr (Or.inl ⟨_, rfl⟩) (Or.inr ⟨_, rfl⟩) (fun t ht hW => ⟨⟨some y, w1, rfl, ⟨rfl, hp1⟩, Wo.at C0.ev hH hS ht hW⟩, hS.F ht⟩) hS.2.2 d_A_remove_25 (hlocks := C0.2.2.2.2.2.2)

set_option maxHeartbeats 4000000 in
set_option maxRecDepth 100000 in
theorem k_A_clear0 (l : Launch) (G : Gl) (w : World) {L E N : Nat} {md : Int32} {f : Nat → Option Nat} (hL : w L = some (.inr (0, [.int md, .ref E, .int (nI 0)]))) (hE : (E = ge0 G ∧ N = 0) ∨ w E = some (.inl (G.2.1.2.2.2, N, .inr (.inr (.inr (.inr f))))))  :
    GnV l y_A_clear ws_A_clear 0 0 0 G w [.ref L] (fun w1 => ClrQ G w w1 L E N f) := by
  refine met_ent (by decide +kernel) (Nat.le_of_ble_eq_true rfl) (fun p e s m below meth c ls C0 hr hin hH hl => ?_)
  have hx := C0.1
  have hb := C0.2.1
  have hS : va_S (gA G) s.heap s.heap [] := va_S.rf
  have hA : ∀ q : Nat, s.heap.size ≤ q → gA G q := fun q h => Nat.le_trans C0.ev.2.2.2.2.2.2.2.2.2.2.2.2 h
  have hl : lv_has ls 4 [(0, .ref L)] := hl
  refine lv_aload_n hx hb d_A_clear_0 rfl (lv_at hl 0 rfl) ?_
  refine lv_dup hx hb d_A_clear_1 rfl ?_
  refine gf_A_63 C0 hH hL rfl d_A_clear_2 ?_
  refine lv_iconst (v := 1) hx hb d_A_clear_5 (by decide) ?_
  refine lv_iadd hx hb d_A_clear_6 ?_
  refine pf_A_63 C0 hH hS hL rfl rfl (Nat.le_of_ble_eq_true rfl) d_A_clear_7 (fun H locs hH hS => ?_)
  obtain ⟨w1, ew1⟩ : ∃ z : World, z = va_up w L (some (.inr (0, [.int (md + 1), .ref E, .int (nI 0)]))) := ⟨_, rfl⟩
  have hH : Hw G w1 H := by rw [ew1]; exact hH
  have hw1_L : w1 L = some (.inr (0, [.int (md + 1), .ref E, .int (nI 0)])) := by rw [ew1]; exact va_up_self _ _ _
  refine lv_aload_n hx hb d_A_clear_10 rfl (lv_at hl 0 rfl) ?_
  refine gf_A_9 C0 hH hw1_L rfl d_A_clear_11 ?_
  refine lv_astore_n (lv' := [(1, .ref E), (0, .ref L)]) hx hb d_A_clear_14 rfl hl (by decide) rfl (fun ls hl => ?_)
  refine lv_aload_n hx hb d_A_clear_15 rfl (lv_at hl 1 rfl) ?_
  refine gf_A_48 C0 hH hw1_L rfl d_A_clear_16 ?_
  refine lv_istore_n (lv' := [(2, .int (nI 0)), (1, .ref E), (0, .ref L)]) hx hb d_A_clear_19 rfl hl (by decide) rfl (fun ls hl => ?_)
  refine lv_aload_n hx hb d_A_clear_20 rfl (lv_at hl 2 rfl) ?_
  refine lv_iconst (v := 0) hx hb d_A_clear_21 (by decide) ?_
  refine lv_dup_x1 hx hb d_A_clear_22 rfl rfl ?_
  refine pf_A_48 C0 hH hS hw1_L rfl rfl (Nat.le_of_ble_eq_true rfl) d_A_clear_23 (fun H locs hH hS => ?_)
  obtain ⟨w2, ew2⟩ : ∃ z : World, z = va_up w1 L (some (.inr (0, [.int (md + 1), .ref E, .int 0]))) := ⟨_, rfl⟩
  have hH : Hw G w2 H := by rw [ew2]; exact hH
  have hw2_L : w2 L = some (.inr (0, [.int (md + 1), .ref E, .int 0])) := by rw [ew2]; exact va_up_self _ _ _
  refine lv_istore_n (lv' := [(3, .int 0), (2, .int (nI 0)), (1, .ref E), (0, .ref L)]) hx hb d_A_clear_26 rfl hl (by decide) rfl (fun ls hl => ?_)
  refine lv_iload_n hx hb d_A_clear_27 rfl (lv_at hl 0 rfl) ?_
  refine lv_iload_n hx hb d_A_clear_28 rfl (lv_at hl 1 rfl) ?_
  refine lv_icmp_ge (tgt := 42) hx hb d_A_clear_29 (by decide) (fun c_29 => ?_) (fun c_29 => ?_)
  · refine W.widen (k := 0) (n := 0) (by omega) (by omega) ?_
    exact W.vret hx hb hr (fun t ht hW => ⟨⟨w2, rfl, ⟨f, _, hw2_L, hE.elim Or.inl (fun h => Or.inr (by rw [ew2, ew1, va_up_ne _ _ (wne h hL (by simp)), va_up_ne _ _ (wne h hL (by simp))]; exact h)), by rw [ew2, ew1]; exact (Kp.up (Or.inl (by simp))).ups (Or.inl (by simp))⟩, Wo.at C0.ev hH hS ht hW⟩, hS.F ht⟩) hS.2.2 d_A_clear_42 (hlocks := C0.2.2.2.2.2.2)
  · exact absurd (show (nI 0 : Int32) ≤ 0 by rw [nI_0]; decide) c_29

set_option maxHeartbeats 4000000 in
set_option maxRecDepth 100000 in
theorem k_A_clear1 (l : Launch) (G : Gl) (w : World) {L E N k : Nat} {md : Int32} {f : Nat → Option Nat} (hL : w L = some (.inr (0, [.int md, .ref E, .int (nI k)]))) (hE : w E = some (.inl (G.2.1.2.2.2, N, .inr (.inr (.inr (.inr f)))))) (hk : k ≤ N) (hN : N ≤ 100000)  :
    GnV l y_A_clear ws_A_clear 0 0 0 G w [.ref L] (fun w1 => ClrQ G w w1 L E N f) := by
  refine met_ent (by decide +kernel) (Nat.le_of_ble_eq_true rfl) (fun p e s m below meth c ls C0 hr hin hH hl => ?_)
  have hx := C0.1
  have hb := C0.2.1
  have hS : va_S (gA G) s.heap s.heap [] := va_S.rf
  have hA : ∀ q : Nat, s.heap.size ≤ q → gA G q := fun q h => Nat.le_trans C0.ev.2.2.2.2.2.2.2.2.2.2.2.2 h
  have hl : lv_has ls 4 [(0, .ref L)] := hl
  refine lv_aload_n hx hb d_A_clear_0 rfl (lv_at hl 0 rfl) ?_
  refine lv_dup hx hb d_A_clear_1 rfl ?_
  refine gf_A_63 C0 hH hL rfl d_A_clear_2 ?_
  refine lv_iconst (v := 1) hx hb d_A_clear_5 (by decide) ?_
  refine lv_iadd hx hb d_A_clear_6 ?_
  refine pf_A_63 C0 hH hS hL rfl rfl (Nat.le_of_ble_eq_true rfl) d_A_clear_7 (fun H locs hH hS => ?_)
  obtain ⟨w1, ew1⟩ : ∃ z : World, z = va_up w L (some (.inr (0, [.int (md + 1), .ref E, .int (nI k)]))) := ⟨_, rfl⟩
  have hH : Hw G w1 H := by rw [ew1]; exact hH
  have hw1_E : w1 E = some (.inl (G.2.1.2.2.2, N, .inr (.inr (.inr (.inr f))))) := by rw [ew1, va_up_ne _ _ (wne hE hL (by simp))]; exact hE
  have hw1_L : w1 L = some (.inr (0, [.int (md + 1), .ref E, .int (nI k)])) := by rw [ew1]; exact va_up_self _ _ _
  refine lv_aload_n hx hb d_A_clear_10 rfl (lv_at hl 0 rfl) ?_
  refine gf_A_9 C0 hH hw1_L rfl d_A_clear_11 ?_
  refine lv_astore_n (lv' := [(1, .ref E), (0, .ref L)]) hx hb d_A_clear_14 rfl hl (by decide) rfl (fun ls hl => ?_)
  refine lv_aload_n hx hb d_A_clear_15 rfl (lv_at hl 1 rfl) ?_
  refine gf_A_48 C0 hH hw1_L rfl d_A_clear_16 ?_
  refine lv_istore_n (lv' := [(2, .int (nI k)), (1, .ref E), (0, .ref L)]) hx hb d_A_clear_19 rfl hl (by decide) rfl (fun ls hl => ?_)
  refine lv_aload_n hx hb d_A_clear_20 rfl (lv_at hl 2 rfl) ?_
  refine lv_iconst (v := 0) hx hb d_A_clear_21 (by decide) ?_
  refine lv_dup_x1 hx hb d_A_clear_22 rfl rfl ?_
  refine pf_A_48 C0 hH hS hw1_L rfl rfl (Nat.le_of_ble_eq_true rfl) d_A_clear_23 (fun H locs hH hS => ?_)
  obtain ⟨w2, ew2⟩ : ∃ z : World, z = va_up w1 L (some (.inr (0, [.int (md + 1), .ref E, .int 0]))) := ⟨_, rfl⟩
  have hH : Hw G w2 H := by rw [ew2]; exact hH
  have hw2_E : w2 E = some (.inl (G.2.1.2.2.2, N, .inr (.inr (.inr (.inr f))))) := by rw [ew2, va_up_ne _ _ (wne hw1_E hw1_L (by simp))]; exact hw1_E
  have hw2_L : w2 L = some (.inr (0, [.int (md + 1), .ref E, .int 0])) := by rw [ew2]; exact va_up_self _ _ _
  refine lv_istore_n (lv' := [(3, .int 0), (2, .int (nI k)), (1, .ref E), (0, .ref L)]) hx hb d_A_clear_26 rfl hl (by decide) rfl (fun ls hl => ?_)
  have loop : ∀ (u j : Nat), j + u = k → ∀ (w9 : World) (f9 : Nat → Option Nat) (H : Heap) (locs : List Loc), Hw G w9 H → va_S (gA G) s.heap H locs → w9 L = some (.inr (0, [.int (md + 1), .ref E, .int 0])) → w9 E = some (.inl (G.2.1.2.2.2, N, .inr (.inr (.inr (.inr f9))))) → Kp w w9 [L, E] → ∀ ls : Array Slot, lv_has ls 4 [(1, .ref E), (2, .int (nI k)), (3, .int (nI j))] → W p l e (rmK 0 0 0) s m [.ref L].toArray below meth c H locs 0 0 (MQ below (va_Qv (fun w1 => ClrQ G w w1 L E N f) (Wo G) (gA G)) [.ref L].toArray s 0 0 (gA G)) (F0 m 27 ls []) := by
    intro u
    induction u with
    | zero =>
      intro j hj w9 f9 H locs hH hS h1 h2 hK9 ls hl
      refine lv_iload_n hx hb d_A_clear_27 rfl (lv_at hl 2 rfl) ?_
      refine lv_iload_n hx hb d_A_clear_28 rfl (lv_at hl 1 rfl) ?_
      refine lv_icmp_ge (tgt := 42) hx hb d_A_clear_29 (by decide) (fun c_29 => ?_) (fun c_29 => ?_)
      · refine W.widen (k := 0) (n := 0) (by omega) (by omega) ?_
        exact W.vret hx hb hr (fun t ht hW => ⟨⟨w9, rfl, ⟨f9, _, h1, Or.inr h2, hK9⟩, Wo.at C0.ev hH hS ht hW⟩, hS.F ht⟩) hS.2.2 d_A_clear_42 (hlocks := C0.2.2.2.2.2.2)
      · exact absurd (nI_le (show k ≤ j by omega) (by omega)) c_29
    | succ u ih =>
      intro j hj w9 f9 H locs hH hS h1 h2 hK9 ls hl
      refine lv_iload_n hx hb d_A_clear_27 rfl (lv_at hl 2 rfl) ?_
      refine lv_iload_n hx hb d_A_clear_28 rfl (lv_at hl 1 rfl) ?_
      refine lv_icmp_ge (tgt := 42) hx hb d_A_clear_29 (by decide) (fun c_29 => ?_) (fun c_29 => ?_)
      · exact absurd c_29 (Int32.not_le.mpr (nI_lt (show j < k by omega) (by omega)))
      · refine lv_aload_n hx hb d_A_clear_32 rfl (lv_at hl 0 rfl) ?_
        refine lv_iload_n hx hb d_A_clear_33 rfl (lv_at hl 2 rfl) ?_
        refine lv_null hx hb d_A_clear_34 ?_
        refine hd_astqN hx hb C0.hK hH hS 3 h2 rfl (vp_in_nI (by omega) (by omega)) d_A_clear_35 (fun H locs hH hS => ?_)
        rw [nI_clamp (by omega)] at hH
        obtain ⟨w3, ew3⟩ : ∃ z : World, z = va_up w9 E (some (.inl (G.2.1.2.2.2, N, .inr (.inr (.inr (.inr (va_up f9 j none))))))) := ⟨_, rfl⟩
        have hH : Hw G w3 H := by rw [ew3]; exact hH
        have hw3_L : w3 L = some (.inr (0, [.int (md + 1), .ref E, .int 0])) := by rw [ew3, va_up_ne _ _ (wne h1 h2 (by simp))]; exact h1
        have hw3_E : w3 E = some (.inl (G.2.1.2.2.2, N, .inr (.inr (.inr (.inr (va_up f9 j none)))))) := by rw [ew3]; exact va_up_self _ _ _
        obtain ⟨y_1, ey_1⟩ : ∃ z : Int32, z = (nI j) + 1 := ⟨_, rfl⟩
        refine lv_iinc (v := y_1) (lv' := [(3, .int y_1), (1, .ref E), (2, .int (nI k))]) hx hb d_A_clear_36 hl (k := 2) rfl (by rw [ey_1]; rfl) (by decide) rfl (fun ls hl => ?_)
        refine lv_goto (tgt := 27) hx hb d_A_clear_39 (by decide) ?_
        rw [show y_1 = nI (j + 1) from by rw [ey_1]; exact nI_1 j] at hl
        exact ih (j + 1) (by omega) w3 _ H locs hH hS hw3_L hw3_E (by rw [ew3]; exact hK9.ups (Or.inl (by simp))) ls (lv_sub hl [1, 2, 0] rfl)
  exact loop k 0 (by omega) w2 f H locs hH hS hw2_L hw2_E (by rw [ew2, ew1]; exact (Kp.up (Or.inl (by simp))).ups (Or.inl (by simp))) ls (lv_sub hl [2, 1, 0] rfl)
