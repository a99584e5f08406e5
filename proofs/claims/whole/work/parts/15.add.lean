/-! grow, add, remove, clear -/
theorem shr1 {n : Nat} (h : n < 2 ^ 31) : nI n >>> ((1 : Int32) &&& 31) = nI (n / 2) := by
  have k := pk_shrN (n := n) h ((1 : Int32) &&& 31) 1 (by decide)
  rw [Nat.pow_one] at k
  exact k
/-- a list of k boxes gets b at i -/
def AddQ (G : Gl) (w w1 : World) (L E i k b N1 : Nat) (f : Nat → Option Nat) : Prop := ∃ (E1 : Nat) (f1 : Nat → Option Nat) (md1 : Int32), w1 L = some (.inr (0, [.int md1, .ref E1, .int (nI (k + 1))])) ∧ w1 E1 = some (.inl (G.2.1.2.2.2, N1, .inr (.inr (.inr (.inr f1))))) ∧ (∀ j : Nat, j < i → f1 j = f j) ∧ f1 i = some b ∧ (∀ j : Nat, i ≤ j → j < k → f1 (j + 1) = f j) ∧ (E1 = E ∨ w E1 = none) ∧ Kp w w1 [L, E]
theorem add_f {fa f : Nat → Option Nat} {i k b : Nat} (hi : i ≤ k) (h : ∀ j : Nat, j < k → fa j = f j) : (∀ j : Nat, j < i → va_up (va_cpy fa fa i (i + 1) (k - i)) i (some b) j = f j) ∧ va_up (va_cpy fa fa i (i + 1) (k - i)) i (some b) i = some b ∧ ∀ j : Nat, i ≤ j → j < k → va_up (va_cpy fa fa i (i + 1) (k - i)) i (some b) (j + 1) = f j := by
  refine ⟨fun j hj => ?_, va_up_self _ _ _, fun j h1 h2 => ?_⟩
  · rw [va_up_ne _ _ (by omega), pk_cpy_out (by omega)]
    exact h j (by omega)
  · rw [va_up_ne _ _ (by omega), pk_cpy_in (by omega) (by omega), show i + (j + 1 - (i + 1)) = j by omega]
    exact h j h2
def RemQ (G : Gl) (w w1 : World) (L E i k N : Nat) (f : Nat → Option Nat) : Prop := ∃ (f1 : Nat → Option Nat) (md1 : Int32), w1 L = some (.inr (0, [.int md1, .ref E, .int (nI (k - 1))])) ∧ w1 E = some (.inl (G.2.1.2.2.2, N, .inr (.inr (.inr (.inr f1))))) ∧ (∀ j : Nat, j < i → f1 j = f j) ∧ (∀ j : Nat, i ≤ j → j < k - 1 → f1 j = f (j + 1)) ∧ Kp w w1 [L, E]

set_option maxHeartbeats 4000000 in
set_option maxRecDepth 100000 in
theorem k_A_grow20 (l : Launch) (G : Gl) (w : World) {L : Nat} {md : Int32} (hL : w L = some (.inr (0, [.int md, .ref (ge0 G), .int (nI 0)])))  :
    GnQ l y_A_grow2 ws_A_grow2 3 1 10 G w [.ref L, .int (nI 1)] (fun r w1 => ∃ q : Nat, r = some q ∧ w q = none ∧ w1 = va_up (va_up w q (some (.inl (G.2.1.2.2.2, 10, .inr (.inr (.inr (.inr (fun _ => none)))))))) L (some (.inr (0, [.int md, .ref q, .int (nI 0)])))) := by
  refine met_ent (by decide +kernel) (Nat.le_of_ble_eq_true rfl) (fun p e s m below meth c ls C0 hr hin hH hl => ?_)
  have hx := C0.1
  have hb := C0.2.1
  have hS : va_S (gA G) s.heap s.heap [] := va_S.rf
  have hA : ∀ q : Nat, s.heap.size ≤ q → gA G q := fun q h => Nat.le_trans C0.ev.2.2.2.2.2.2.2.2.2.2.2.2 h
  have hl : lv_has ls 4 [(0, .ref L), (1, .int (nI 1))] := hl
  refine lv_aload_n hx hb d_A_grow2_0 rfl (lv_at hl 0 rfl) ?_
  refine gf_A_9 C0 hH hL rfl d_A_grow2_1 ?_
  refine e0_len C0 hS d_A_grow2_4 ?_
  refine lv_istore_n (lv' := [(2, .int (nI 0)), (0, .ref L), (1, .int (nI 1))]) hx hb d_A_grow2_5 rfl hl (by decide) rfl (fun ls hl => ?_)
  refine lv_iload_n hx hb d_A_grow2_6 rfl (lv_at hl 0 rfl) ?_
  refine lv_if_gt (tgt := 20) hx hb d_A_grow2_7 (by decide) (fun c_7 => ?_) (fun c_7 => ?_)
  · exact absurd c_7 (by rw [nI_0]; decide)
  · refine lv_aload_n hx hb d_A_grow2_10 rfl (lv_at hl 1 rfl) ?_
    refine gf_A_9 C0 hH hL rfl d_A_grow2_11 ?_
    refine va_gets hx hb C0.ev.2.1 hS C0.2.2.2.1 (C0.2.2.2.2.1 _ mw_45) (fun _ h => h) d_A_grow2_14 ?_
    refine lv_acmp_eq (rx := some (ge0 G)) (ry := some (ge0 G)) (tgt := 45) hx hb d_A_grow2_17 (by decide) (fun _ => ?_) (fun h => absurd rfl h)
    refine lv_aload_n hx hb d_A_grow2_45 rfl (lv_at hl 1 rfl) ?_
    refine lv_bipush (v := 10) hx hb d_A_grow2_46 (by decide) ?_
    refine lv_iload_n hx hb d_A_grow2_48 rfl (lv_at hl 2 rfl) ?_
    refine va_mmax hx hb (C0.2.2.1.trans hl.1.symm) C0.2.2.2.1 (C0.2.2.2.2.1 _ mw_561) (C0.2.2.2.2.1 _ mw_119) (C0.2.2.2.2.1 _ mw_19) (C0.2.2.2.2.1 _ mw_120) (Nat.le_of_ble_eq_true rfl) (Nat.le_of_ble_eq_true rfl) (by show _ ≤ 1; omega) (by show _ ≤ 10; omega) d_A_grow2_49 ?_
    rw [show (if 10 < (nI 1) then (nI 1) else 10) = nI 10 from (by decide)]
    refine hd_newq (N' := 10) hx hb C0.2.2.2.1 (C0.2.2.2.2.1 _ mw_562) C0.ev.2.2.2.2.2.2.2.1 C0.hK 3 rfl hH hS hA (nI_pos (by omega)) (nI_clamp (by omega)) (by omega) (by show _ ≤ 1; omega) (by show _ ≤ 10; omega) d_A_grow2_52 (fun q52 H hnq52 hH hS => ?_)
    obtain ⟨w1, ew1⟩ : ∃ z : World, z = va_up w q52 (some (.inl (G.2.1.2.2.2, 10, .inr (.inr (.inr (.inr (fun _ => none))))))) := ⟨_, rfl⟩
    have hH : Hw G w1 H := by rw [ew1]; exact hH
    have hw1_L : w1 L = some (.inr (0, [.int md, .ref (ge0 G), .int (nI 0)])) := by rw [ew1, va_up_ne _ _ (wnf hL hnq52)]; exact hL
    have hw1_q52 : w1 q52 = some (.inl (G.2.1.2.2.2, 10, .inr (.inr (.inr (.inr (fun _ => none)))))) := by rw [ew1]; exact va_up_self _ _ _
    refine lv_dup_x1 hx hb d_A_grow2_55 rfl rfl ?_
    refine pf_A_9 C0 hH hS hw1_L rfl rfl (Nat.le_of_ble_eq_true rfl) d_A_grow2_56 (fun H locs hH hS => ?_)
    obtain ⟨w2, ew2⟩ : ∃ z : World, z = va_up w1 L (some (.inr (0, [.int md, .ref q52, .int (nI 0)]))) := ⟨_, rfl⟩
    have hH : Hw G w2 H := by rw [ew2]; exact hH
    have hw2_q52 : w2 q52 = some (.inl (G.2.1.2.2.2, 10, .inr (.inr (.inr (.inr (fun _ => none)))))) := by rw [ew2, va_up_ne _ _ ((wnf hL hnq52).symm)]; exact hw1_q52
    have hw2_L : w2 L = some (.inr (0, [.int md, .ref q52, .int (nI 0)])) := by rw [ew2]; exact va_up_self _ _ _
    refine W.widen (k := 1) (n := 10) (by omega) (by omega) ?_
    exact W.aret hx hb hr (Or.inr ⟨_, rfl⟩) (Or.inr ⟨_, rfl⟩) (fun t ht hW => ⟨⟨some q52, w2, rfl, ⟨_, rfl, hnq52, by rw [ew2, ew1]⟩, Wo.at C0.ev hH hS ht hW⟩, hS.F ht⟩) hS.2.2 d_A_grow2_59 (hlocks := C0.2.2.2.2.2.2)

set_option maxHeartbeats 4000000 in
set_option maxRecDepth 100000 in
theorem k_A_grow21 (l : Launch) (G : Gl) (w : World) {L E N : Nat} {md : Int32} {f : Nat → Option Nat} (hL : w L = some (.inr (0, [.int md, .ref E, .int (nI N)]))) (hE : w E = some (.inl (G.2.1.2.2.2, N, .inr (.inr (.inr (.inr f)))))) (h0 : 0 < N) (hN : N ≤ 60000) (hq : ∀ j : Nat, j < N → ∃ (y : Nat) (vs : List Value), f j = some y ∧ w y = some (.inr (1, vs)))  :
    GnQ l y_A_grow2 ws_A_grow2 3 1 (N + max 1 (N / 2)) G w [.ref L, .int (nI (N + 1))] (fun r w1 => ∃ q : Nat, r = some q ∧ w q = none ∧ w1 = va_up (va_up w q (some (.inl (G.2.1.2.2.2, (N + max 1 (N / 2)), .inr (.inr (.inr (.inr (va_cpy f (fun _ => none) 0 0 N)))))))) L (some (.inr (0, [.int md, .ref q, .int (nI N)])))) := by
  refine met_ent (by decide +kernel) (Nat.le_of_ble_eq_true rfl) (fun p e s m below meth c ls C0 hr hin hH hl => ?_)
  have hx := C0.1
  have hb := C0.2.1
  have hS : va_S (gA G) s.heap s.heap [] := va_S.rf
  have hA : ∀ q : Nat, s.heap.size ≤ q → gA G q := fun q h => Nat.le_trans C0.ev.2.2.2.2.2.2.2.2.2.2.2.2 h
  have hl : lv_has ls 4 [(0, .ref L), (1, .int (nI (N + 1)))] := hl
  refine lv_aload_n hx hb d_A_grow2_0 rfl (lv_at hl 0 rfl) ?_
  refine gf_A_9 C0 hH hL rfl d_A_grow2_1 ?_
  refine hd_alen hx hb C0.hK hH 3 hE rfl (v := nI N) rfl d_A_grow2_4 ?_
  refine lv_istore_n (lv' := [(2, .int (nI N)), (0, .ref L), (1, .int (nI (N + 1)))]) hx hb d_A_grow2_5 rfl hl (by decide) rfl (fun ls hl => ?_)
  refine lv_iload_n hx hb d_A_grow2_6 rfl (lv_at hl 0 rfl) ?_
  refine lv_if_gt (tgt := 20) hx hb d_A_grow2_7 (by decide) (fun c_7 => ?_) (fun c_7 => ?_)
  · refine lv_iload_n hx hb d_A_grow2_20 rfl (lv_at hl 0 rfl) ?_
    refine lv_iload_n hx hb d_A_grow2_21 rfl (lv_at hl 2 rfl) ?_
    refine lv_iload_n hx hb d_A_grow2_22 rfl (lv_at hl 0 rfl) ?_
    refine lv_isub hx hb d_A_grow2_23 ?_
    rw [show ((nI (N + 1)) - (nI N)) = nI 1 from (pk_sub (by omega)).trans (by rw [Nat.add_sub_cancel_left])]
    refine lv_iload_n hx hb d_A_grow2_24 rfl (lv_at hl 0 rfl) ?_
    refine lv_iconst (v := 1) hx hb d_A_grow2_25 (by decide) ?_
    refine lv_ishr hx hb d_A_grow2_26 ?_
    rw [shr1 (by omega)]
    refine pu_v (runS C0 (k_S_newLength l G w N 1 (N / 2) h0 (by omega) (by omega) (by omega)) (cs_A_73 C0 ⟨Nat.le_of_ble_eq_true rfl, Nat.le_of_ble_eq_true rfl⟩) hH hS rfl hl.1 rfl (lv_room (Nat.le_of_ble_eq_true rfl)) d_A_grow2_27 ⟨by show _ ≤ 1; omega, by show _ ≤ (N + max 1 (N / 2)); omega⟩) ?_
    refine lv_istore_n (lv' := [(3, .int (nI (N + max 1 (N / 2)))), (2, .int (nI N)), (0, .ref L), (1, .int (nI (N + 1)))]) hx hb d_A_grow2_30 rfl hl (by decide) rfl (fun ls hl => ?_)
    refine lv_aload_n hx hb d_A_grow2_31 rfl (lv_at hl 2 rfl) ?_
    refine lv_aload_n hx hb d_A_grow2_32 rfl (lv_at hl 2 rfl) ?_
    refine gf_A_9 C0 hH hL rfl d_A_grow2_33 ?_
    refine lv_iload_n hx hb d_A_grow2_36 rfl (lv_at hl 0 rfl) ?_
    refine gn_q (runS C0 (k_R_copyOf3 l G w (N + max 1 (N / 2)) hE hq (by omega) (by omega)) (cs_A_66 C0 ⟨Nat.le_of_ble_eq_true rfl, Nat.le_of_ble_eq_true rfl⟩) hH hS rfl hl.1 rfl (lv_room (Nat.le_of_ble_eq_true rfl)) d_A_grow2_37 ⟨by show _ ≤ 1; omega, by show _ ≤ (N + max 1 (N / 2)); omega⟩) hS (fun r1 w1 H locs hp1 hH hS => ?_)
    obtain ⟨q9, rfl, hnq9, ew1⟩ := hp1
    have hw1_L : w1 L = some (.inr (0, [.int md, .ref E, .int (nI N)])) := by rw [ew1, va_up_ne _ _ (wnf hL hnq9)]; exact hL
    refine lv_dup_x1 hx hb d_A_grow2_40 rfl rfl ?_
    refine pf_A_9 C0 hH hS hw1_L rfl rfl (Nat.le_of_ble_eq_true rfl) d_A_grow2_41 (fun H locs hH hS => ?_)
    obtain ⟨w2, ew2⟩ : ∃ z : World, z = va_up w1 L (some (.inr (0, [.int md, .ref q9, .int (nI N)]))) := ⟨_, rfl⟩
    have hH : Hw G w2 H := by rw [ew2]; exact hH
    have hw2_L : w2 L = some (.inr (0, [.int md, .ref q9, .int (nI N)])) := by rw [ew2]; exact va_up_self _ _ _
    refine W.widen (k := 1) (n := (N + max 1 (N / 2))) (by omega) (by omega) ?_
    exact W.aret hx hb hr (Or.inr ⟨_, rfl⟩) (Or.inr ⟨_, rfl⟩) (fun t ht hW => ⟨⟨some q9, w2, rfl, ⟨_, rfl, hnq9, by rw [ew2, ew1]⟩, Wo.at C0.ev hH hS ht hW⟩, hS.F ht⟩) hS.2.2 d_A_grow2_44 (hlocks := C0.2.2.2.2.2.2)
  · exact absurd (show nI 0 < nI N from nI_lt h0 (by omega)) c_7

set_option maxHeartbeats 4000000 in
set_option maxRecDepth 100000 in
theorem k_A_grow0 (l : Launch) (G : Gl) (w : World) {L : Nat} {md : Int32} (hL : w L = some (.inr (0, [.int md, .ref (ge0 G), .int (nI 0)])))  :
    GnQ l y_A_grow ws_A_grow 4 1 10 G w [.ref L] (fun r w1 => ∃ q : Nat, r = some q ∧ w q = none ∧ w1 = va_up (va_up w q (some (.inl (G.2.1.2.2.2, 10, .inr (.inr (.inr (.inr (fun _ => none)))))))) L (some (.inr (0, [.int md, .ref q, .int (nI 0)])))) := by
  refine met_ent (by decide +kernel) (Nat.le_of_ble_eq_true rfl) (fun p e s m below meth c ls C0 hr hin hH hl => ?_)
  have hx := C0.1
  have hb := C0.2.1
  have hS : va_S (gA G) s.heap s.heap [] := va_S.rf
  have hA : ∀ q : Nat, s.heap.size ≤ q → gA G q := fun q h => Nat.le_trans C0.ev.2.2.2.2.2.2.2.2.2.2.2.2 h
  have hl : lv_has ls 1 [(0, .ref L)] := hl
  refine lv_aload_n hx hb d_A_grow_0 rfl (lv_at hl 0 rfl) ?_
  refine lv_aload_n hx hb d_A_grow_1 rfl (lv_at hl 0 rfl) ?_
  refine gf_A_48 C0 hH hL rfl d_A_grow_2 ?_
  refine lv_iconst (v := 1) hx hb d_A_grow_5 (by decide) ?_
  refine lv_iadd hx hb d_A_grow_6 ?_
  rw [show ((nI 0) + 1) = nI 1 from nI_1 0]
  refine gn_q (runV C0 (k_A_grow20 l G w hL) (cs_A_69 C0 ⟨Nat.le_of_ble_eq_true rfl, Nat.le_of_ble_eq_true rfl⟩) hH hS (hd_recv C0.hK hH rfl hL) rfl hl.1 rfl (lv_room (Nat.le_of_ble_eq_true rfl)) d_A_grow_7 ⟨by show _ ≤ 1; omega, by show _ ≤ 10; omega⟩) hS (fun r1 w1 H locs hp1 hH hS => ?_)
  obtain ⟨q9, rfl, hnq9, ew1⟩ := hp1
  refine W.widen (k := 1) (n := 10) (by omega) (by omega) ?_
  exact W.aret hx hb hr (Or.inr ⟨_, rfl⟩) (Or.inr ⟨_, rfl⟩) (fun t ht hW => ⟨⟨some q9, w1, rfl, ⟨q9, rfl, hnq9, ew1⟩, Wo.at C0.ev hH hS ht hW⟩, hS.F ht⟩) hS.2.2 d_A_grow_10 (hlocks := C0.2.2.2.2.2.2)

set_option maxHeartbeats 4000000 in
set_option maxRecDepth 100000 in
theorem k_A_grow1 (l : Launch) (G : Gl) (w : World) {L E N : Nat} {md : Int32} {f : Nat → Option Nat} (hL : w L = some (.inr (0, [.int md, .ref E, .int (nI N)]))) (hE : w E = some (.inl (G.2.1.2.2.2, N, .inr (.inr (.inr (.inr f)))))) (h0 : 0 < N) (hN : N ≤ 60000) (hq : ∀ j : Nat, j < N → ∃ (y : Nat) (vs : List Value), f j = some y ∧ w y = some (.inr (1, vs)))  :
    GnQ l y_A_grow ws_A_grow 4 1 (N + max 1 (N / 2)) G w [.ref L] (fun r w1 => ∃ q : Nat, r = some q ∧ w q = none ∧ w1 = va_up (va_up w q (some (.inl (G.2.1.2.2.2, (N + max 1 (N / 2)), .inr (.inr (.inr (.inr (va_cpy f (fun _ => none) 0 0 N)))))))) L (some (.inr (0, [.int md, .ref q, .int (nI N)])))) := by
  refine met_ent (by decide +kernel) (Nat.le_of_ble_eq_true rfl) (fun p e s m below meth c ls C0 hr hin hH hl => ?_)
  have hx := C0.1
  have hb := C0.2.1
  have hS : va_S (gA G) s.heap s.heap [] := va_S.rf
  have hA : ∀ q : Nat, s.heap.size ≤ q → gA G q := fun q h => Nat.le_trans C0.ev.2.2.2.2.2.2.2.2.2.2.2.2 h
  have hl : lv_has ls 1 [(0, .ref L)] := hl
  refine lv_aload_n hx hb d_A_grow_0 rfl (lv_at hl 0 rfl) ?_
  refine lv_aload_n hx hb d_A_grow_1 rfl (lv_at hl 0 rfl) ?_
  refine gf_A_48 C0 hH hL rfl d_A_grow_2 ?_
  refine lv_iconst (v := 1) hx hb d_A_grow_5 (by decide) ?_
  refine lv_iadd hx hb d_A_grow_6 ?_
  rw [show ((nI N) + 1) = nI (N + 1) from nI_1 N]
  refine gn_q (runV C0 (k_A_grow21 l G w hL hE h0 hN hq) (cs_A_69 C0 ⟨Nat.le_of_ble_eq_true rfl, Nat.le_of_ble_eq_true rfl⟩) hH hS (hd_recv C0.hK hH rfl hL) rfl hl.1 rfl (lv_room (Nat.le_of_ble_eq_true rfl)) d_A_grow_7 ⟨by show _ ≤ 1; omega, by show _ ≤ (N + max 1 (N / 2)); omega⟩) hS (fun r1 w1 H locs hp1 hH hS => ?_)
  obtain ⟨q9, rfl, hnq9, ew1⟩ := hp1
  refine W.widen (k := 1) (n := (N + max 1 (N / 2))) (by omega) (by omega) ?_
  exact W.aret hx hb hr (Or.inr ⟨_, rfl⟩) (Or.inr ⟨_, rfl⟩) (fun t ht hW => ⟨⟨some q9, w1, rfl, ⟨q9, rfl, hnq9, ew1⟩, Wo.at C0.ev hH hS ht hW⟩, hS.F ht⟩) hS.2.2 d_A_grow_10 (hlocks := C0.2.2.2.2.2.2)

set_option maxHeartbeats 4000000 in
set_option maxRecDepth 100000 in
theorem k_A_add0 (l : Launch) (G : Gl) (w : World) {L E N k : Nat} {md : Int32} {f : Nat → Option Nat} (hL : w L = some (.inr (0, [.int md, .ref E, .int (nI k)]))) (hE : w E = some (.inl (G.2.1.2.2.2, N, .inr (.inr (.inr (.inr f)))))) (hk : k ≤ N) (hN : N ≤ 100000) {b : Nat} {v1 v2 v3 v4 v5 : Value} (hb9 : w b = some (.inr (1, [v1, v2, v3, v4, v5]))) (hq : ∀ j : Nat, j < k → ∃ (y : Nat) (vs : List Value), f j = some y ∧ w y = some (.inr (1, vs))) {i : Nat} (hi : i ≤ k) (h1 : k < N) :
    GnV l y_A_add ws_A_add 5 0 0 G w [.ref L, .int (nI i), .ref b] (fun w1 => AddQ G w w1 L E i k b N f) := by
  refine met_ent (by decide +kernel) (Nat.le_of_ble_eq_true rfl) (fun p e s m below meth c ls C0 hr hin hH hl => ?_)
  have hx := C0.1
  have hb := C0.2.1
  have hS : va_S (gA G) s.heap s.heap [] := va_S.rf
  have hA : ∀ q : Nat, s.heap.size ≤ q → gA G q := fun q h => Nat.le_trans C0.ev.2.2.2.2.2.2.2.2.2.2.2.2 h
  have hl : lv_has ls 5 [(0, .ref L), (1, .int (nI i)), (2, .ref b)] := hl
  refine lv_aload_n hx hb d_A_add_0 rfl (lv_at hl 0 rfl) ?_
  refine lv_iload_n hx hb d_A_add_1 rfl (lv_at hl 1 rfl) ?_
  refine pu_n (runV C0 (k_A_rangeCheckForAdd l G w hL hi (by omega)) (cs_A_135 C0 ⟨Nat.le_of_ble_eq_true rfl, Nat.le_of_ble_eq_true rfl⟩) hH hS (hd_recv C0.hK hH rfl hL) rfl hl.1 rfl (lv_room (Nat.le_of_ble_eq_true rfl)) d_A_add_2 ⟨by show _ ≤ 0; omega, by show _ ≤ 0; omega⟩) ?_
  refine lv_aload_n hx hb d_A_add_5 rfl (lv_at hl 0 rfl) ?_
  refine lv_dup hx hb d_A_add_6 rfl ?_
  refine gf_A_63 C0 hH hL rfl d_A_add_7 ?_
  refine lv_iconst (v := 1) hx hb d_A_add_10 (by decide) ?_
  refine lv_iadd hx hb d_A_add_11 ?_
  refine pf_A_63 C0 hH hS hL rfl rfl (Nat.le_of_ble_eq_true rfl) d_A_add_12 (fun H locs hH hS => ?_)
  obtain ⟨w1, ew1⟩ : ∃ z : World, z = va_up w L (some (.inr (0, [.int (md + 1), .ref E, .int (nI k)]))) := ⟨_, rfl⟩
  have hH : Hw G w1 H := by rw [ew1]; exact hH
  have hw1_b : w1 b = some (.inr (1, [v1, v2, v3, v4, v5])) := by rw [ew1, va_up_ne _ _ (wne hb9 hL (by simp))]; exact hb9
  have hw1_E : w1 E = some (.inl (G.2.1.2.2.2, N, .inr (.inr (.inr (.inr f))))) := by rw [ew1, va_up_ne _ _ (wne hE hL (by simp))]; exact hE
  have hw1_L : w1 L = some (.inr (0, [.int (md + 1), .ref E, .int (nI k)])) := by rw [ew1]; exact va_up_self _ _ _
  have hqw1_0 : ∀ j : Nat, j < k → ∃ (y : Nat) (vs : List Value), f j = some y ∧ w1 y = some (.inr (1, vs)) := fun j hj => by obtain ⟨y, vs, g1, g2⟩ := hq j hj; exact ⟨y, vs, g1, by rw [ew1, va_up_ne _ _ (wne g2 hL (by simp))]; exact g2⟩
  refine lv_aload_n hx hb d_A_add_15 rfl (lv_at hl 0 rfl) ?_
  refine gf_A_48 C0 hH hw1_L rfl d_A_add_16 ?_
  refine lv_dup hx hb d_A_add_19 rfl ?_
  refine lv_istore_n (lv' := [(3, .int (nI k)), (0, .ref L), (1, .int (nI i)), (2, .ref b)]) hx hb d_A_add_20 rfl hl (by decide) rfl (fun ls hl => ?_)
  refine lv_aload_n hx hb d_A_add_21 rfl (lv_at hl 1 rfl) ?_
  refine gf_A_9 C0 hH hw1_L rfl d_A_add_22 ?_
  refine lv_dup hx hb d_A_add_25 rfl ?_
  refine lv_astore (lv' := [(4, .ref E), (3, .int (nI k)), (0, .ref L), (1, .int (nI i)), (2, .ref b)]) hx hb d_A_add_26 hl (by decide) rfl (fun ls hl => ?_)
  refine hd_alen hx hb C0.hK hH 3 hw1_E rfl (v := nI N) rfl d_A_add_28 ?_
  refine lv_icmp_ne (tgt := 38) hx hb d_A_add_29 (by decide) (fun c_29 => ?_) (fun c_29 => ?_)
  · refine lv_aload hx hb d_A_add_38 (lv_at hl 0 rfl) ?_
    refine lv_iload_n hx hb d_A_add_40 rfl (lv_at hl 3 rfl) ?_
    refine lv_aload hx hb d_A_add_41 (lv_at hl 0 rfl) ?_
    refine lv_iload_n hx hb d_A_add_43 rfl (lv_at hl 3 rfl) ?_
    refine lv_iconst (v := 1) hx hb d_A_add_44 (by decide) ?_
    refine lv_iadd hx hb d_A_add_45 ?_
    rw [show ((nI i) + 1) = nI (i + 1) from nI_1 i]
    refine lv_iload_n hx hb d_A_add_46 rfl (lv_at hl 1 rfl) ?_
    refine lv_iload_n hx hb d_A_add_47 rfl (lv_at hl 3 rfl) ?_
    refine lv_isub hx hb d_A_add_48 ?_
    rw [show ((nI k) - (nI i)) = nI (k - i) from pk_sub hi]
    refine hd_copyq (r := ("BoxDrawer$Box", TX, 5)) hx hb (C0.2.2.1.trans hl.1.symm) C0.2.2.2.1 (C0.2.2.2.2.1 _ mw_563) (C0.2.2.2.2.1 _ mw_137) (C0.2.2.2.2.1 _ mw_136) (C0.2.2.2.2.1 _ mw_21) C0.hK hH hS 3 1 hw1_E hw1_E rfl (C0.ev.2.2.2.2.2.2.1 (Cond.castable "BoxDrawer$Box" "java/lang/Object") (by decide +kernel)) rfl (nI_pos (by omega)) (nI_pos (by omega)) (nI_pos (by omega)) (by rw [nI_clamp (by omega), nI_clamp (by omega)]; omega) (by rw [nI_clamp (by omega), nI_clamp (by omega)]; omega) (fun j hj y hy => by rw [nI_clamp (by omega)] at hj hy; obtain ⟨y2, vs, g1, g2⟩ := hqw1_0 (i + j) (by omega); rw [g1] at hy; cases hy; exact ⟨vs, g2⟩) (Nat.le_of_ble_eq_true rfl) (Nat.le_of_ble_eq_true rfl) d_A_add_49 (fun H locs hH hS => ?_)
    rw [nI_clamp (by omega), nI_clamp (by omega), nI_clamp (by omega)] at hH
    obtain ⟨w2, ew2⟩ : ∃ z : World, z = va_up w1 E (some (.inl (G.2.1.2.2.2, N, .inr (.inr (.inr (.inr (va_cpy f f i (i + 1) (k - i)))))))) := ⟨_, rfl⟩
    have hH : Hw G w2 H := by rw [ew2]; exact hH
    have hw2_b : w2 b = some (.inr (1, [v1, v2, v3, v4, v5])) := by rw [ew2, va_up_ne _ _ (wne hw1_b hw1_E (by simp))]; exact hw1_b
    have hw2_L : w2 L = some (.inr (0, [.int (md + 1), .ref E, .int (nI k)])) := by rw [ew2, va_up_ne _ _ (wne hw1_L hw1_E (by simp))]; exact hw1_L
    have hw2_E : w2 E = some (.inl (G.2.1.2.2.2, N, .inr (.inr (.inr (.inr (va_cpy f f i (i + 1) (k - i))))))) := by rw [ew2]; exact va_up_self _ _ _
    have hqw2_0 : ∀ j : Nat, j < k → ∃ (y : Nat) (vs : List Value), f j = some y ∧ w2 y = some (.inr (1, vs)) := fun j hj => by obtain ⟨y, vs, g1, g2⟩ := hqw1_0 j hj; exact ⟨y, vs, g1, by rw [ew2, va_up_ne _ _ (wne g2 hw1_E (by simp))]; exact g2⟩
    refine lv_aload hx hb d_A_add_52 (lv_at hl 0 rfl) ?_
    refine lv_iload_n hx hb d_A_add_54 rfl (lv_at hl 3 rfl) ?_
    refine lv_aload_n hx hb d_A_add_55 rfl (lv_at hl 4 rfl) ?_
    refine hd_astqO (r := ("BoxDrawer$Box", TX, 5)) hx hb C0.hK hH hS 3 1 hw2_E rfl (C0.ev.2.2.2.2.2.2.1 (Cond.castable "BoxDrawer$Box" "java/lang/Object") (by decide +kernel)) hw2_b rfl (vp_in_nI (by omega) (by omega)) d_A_add_56 (fun H locs hH hS => ?_)
    rw [nI_clamp (by omega)] at hH
    obtain ⟨w3, ew3⟩ : ∃ z : World, z = va_up w2 E (some (.inl (G.2.1.2.2.2, N, .inr (.inr (.inr (.inr (va_up (va_cpy f f i (i + 1) (k - i)) i (some b)))))))) := ⟨_, rfl⟩
    have hH : Hw G w3 H := by rw [ew3]; exact hH
    have hw3_b : w3 b = some (.inr (1, [v1, v2, v3, v4, v5])) := by rw [ew3, va_up_ne _ _ (wne hw2_b hw2_E (by simp))]; exact hw2_b
    have hw3_L : w3 L = some (.inr (0, [.int (md + 1), .ref E, .int (nI k)])) := by rw [ew3, va_up_ne _ _ (wne hw2_L hw2_E (by simp))]; exact hw2_L
    have hw3_E : w3 E = some (.inl (G.2.1.2.2.2, N, .inr (.inr (.inr (.inr (va_up (va_cpy f f i (i + 1) (k - i)) i (some b))))))) := by rw [ew3]; exact va_up_self _ _ _
    have hqw3_0 : ∀ j : Nat, j < k → ∃ (y : Nat) (vs : List Value), f j = some y ∧ w3 y = some (.inr (1, vs)) := fun j hj => by obtain ⟨y, vs, g1, g2⟩ := hqw2_0 j hj; exact ⟨y, vs, g1, by rw [ew3, va_up_ne _ _ (wne g2 hw2_E (by simp))]; exact g2⟩
    refine lv_aload_n hx hb d_A_add_57 rfl (lv_at hl 2 rfl) ?_
    refine lv_iload_n hx hb d_A_add_58 rfl (lv_at hl 1 rfl) ?_
    refine lv_iconst (v := 1) hx hb d_A_add_59 (by decide) ?_
    refine lv_iadd hx hb d_A_add_60 ?_
    rw [show ((nI k) + 1) = nI (k + 1) from nI_1 k]
    refine pf_A_48 C0 hH hS hw3_L rfl rfl (Nat.le_of_ble_eq_true rfl) d_A_add_61 (fun H locs hH hS => ?_)
    obtain ⟨w4, ew4⟩ : ∃ z : World, z = va_up w3 L (some (.inr (0, [.int (md + 1), .ref E, .int (nI (k + 1))]))) := ⟨_, rfl⟩
    have hH : Hw G w4 H := by rw [ew4]; exact hH
    have hw4_b : w4 b = some (.inr (1, [v1, v2, v3, v4, v5])) := by rw [ew4, va_up_ne _ _ (wne hw3_b hw3_L (by simp))]; exact hw3_b
    have hw4_E : w4 E = some (.inl (G.2.1.2.2.2, N, .inr (.inr (.inr (.inr (va_up (va_cpy f f i (i + 1) (k - i)) i (some b))))))) := by rw [ew4, va_up_ne _ _ (wne hw3_E hw3_L (by simp))]; exact hw3_E
    have hw4_L : w4 L = some (.inr (0, [.int (md + 1), .ref E, .int (nI (k + 1))])) := by rw [ew4]; exact va_up_self _ _ _
    have hqw4_0 : ∀ j : Nat, j < k → ∃ (y : Nat) (vs : List Value), f j = some y ∧ w4 y = some (.inr (1, vs)) := fun j hj => by obtain ⟨y, vs, g1, g2⟩ := hqw3_0 j hj; exact ⟨y, vs, g1, by rw [ew4, va_up_ne _ _ (wne g2 hw3_L (by simp))]; exact g2⟩
    refine W.widen (k := 0) (n := 0) (by omega) (by omega) ?_
    exact W.vret hx hb hr (fun t ht hW => ⟨⟨w4, rfl, (by obtain ⟨a1, a2, a3⟩ := add_f (b := b) hi (fun _ _ => rfl); exact ⟨E, _, _, hw4_L, hw4_E, a1, a2, a3, Or.inl rfl, by rw [ew4, ew3, ew2, ew1]; exact (((Kp.up (Or.inl (by simp))).ups (Or.inl (by simp))).ups (Or.inl (by simp))).ups (Or.inl (by simp))⟩), Wo.at C0.ev hH hS ht hW⟩, hS.F ht⟩) hS.2.2 d_A_add_64 (hlocks := C0.2.2.2.2.2.2)
  · exact absurd ((nI_eq (by omega) (by omega)).mp c_29) (by omega)

set_option maxHeartbeats 4000000 in
set_option maxRecDepth 100000 in
theorem k_A_add1 (l : Launch) (G : Gl) (w : World) {L E k : Nat} {md : Int32} {f : Nat → Option Nat} (hL : w L = some (.inr (0, [.int md, .ref E, .int (nI k)]))) (hE : w E = some (.inl (G.2.1.2.2.2, k, .inr (.inr (.inr (.inr f)))))) (h0 : 0 < k) (hN : k ≤ 60000) {b : Nat} {v1 v2 v3 v4 v5 : Value} (hb9 : w b = some (.inr (1, [v1, v2, v3, v4, v5]))) (hq : ∀ j : Nat, j < k → ∃ (y : Nat) (vs : List Value), f j = some y ∧ w y = some (.inr (1, vs))) {i : Nat} (hi : i ≤ k) :
    GnV l y_A_add ws_A_add 5 1 (k + max 1 (k / 2)) G w [.ref L, .int (nI i), .ref b] (fun w1 => AddQ G w w1 L E i k b (k + max 1 (k / 2)) f) := by
  refine met_ent (by decide +kernel) (Nat.le_of_ble_eq_true rfl) (fun p e s m below meth c ls C0 hr hin hH hl => ?_)
  have hx := C0.1
  have hb := C0.2.1
  have hS : va_S (gA G) s.heap s.heap [] := va_S.rf
  have hA : ∀ q : Nat, s.heap.size ≤ q → gA G q := fun q h => Nat.le_trans C0.ev.2.2.2.2.2.2.2.2.2.2.2.2 h
  have hl : lv_has ls 5 [(0, .ref L), (1, .int (nI i)), (2, .ref b)] := hl
  refine lv_aload_n hx hb d_A_add_0 rfl (lv_at hl 0 rfl) ?_
  refine lv_iload_n hx hb d_A_add_1 rfl (lv_at hl 1 rfl) ?_
  refine pu_n (runV C0 (k_A_rangeCheckForAdd l G w hL hi (by omega)) (cs_A_135 C0 ⟨Nat.le_of_ble_eq_true rfl, Nat.le_of_ble_eq_true rfl⟩) hH hS (hd_recv C0.hK hH rfl hL) rfl hl.1 rfl (lv_room (Nat.le_of_ble_eq_true rfl)) d_A_add_2 ⟨by show _ ≤ 1; omega, by show _ ≤ (k + max 1 (k / 2)); omega⟩) ?_
  refine lv_aload_n hx hb d_A_add_5 rfl (lv_at hl 0 rfl) ?_
  refine lv_dup hx hb d_A_add_6 rfl ?_
  refine gf_A_63 C0 hH hL rfl d_A_add_7 ?_
  refine lv_iconst (v := 1) hx hb d_A_add_10 (by decide) ?_
  refine lv_iadd hx hb d_A_add_11 ?_
  refine pf_A_63 C0 hH hS hL rfl rfl (Nat.le_of_ble_eq_true rfl) d_A_add_12 (fun H locs hH hS => ?_)
  obtain ⟨w1, ew1⟩ : ∃ z : World, z = va_up w L (some (.inr (0, [.int (md + 1), .ref E, .int (nI k)]))) := ⟨_, rfl⟩
  have hH : Hw G w1 H := by rw [ew1]; exact hH
  have hw1_b : w1 b = some (.inr (1, [v1, v2, v3, v4, v5])) := by rw [ew1, va_up_ne _ _ (wne hb9 hL (by simp))]; exact hb9
  have hw1_E : w1 E = some (.inl (G.2.1.2.2.2, k, .inr (.inr (.inr (.inr f))))) := by rw [ew1, va_up_ne _ _ (wne hE hL (by simp))]; exact hE
  have hw1_L : w1 L = some (.inr (0, [.int (md + 1), .ref E, .int (nI k)])) := by rw [ew1]; exact va_up_self _ _ _
  have hqw1_0 : ∀ j : Nat, j < k → ∃ (y : Nat) (vs : List Value), f j = some y ∧ w1 y = some (.inr (1, vs)) := fun j hj => by obtain ⟨y, vs, g1, g2⟩ := hq j hj; exact ⟨y, vs, g1, by rw [ew1, va_up_ne _ _ (wne g2 hL (by simp))]; exact g2⟩
  refine lv_aload_n hx hb d_A_add_15 rfl (lv_at hl 0 rfl) ?_
  refine gf_A_48 C0 hH hw1_L rfl d_A_add_16 ?_
  refine lv_dup hx hb d_A_add_19 rfl ?_
  refine lv_istore_n (lv' := [(3, .int (nI k)), (0, .ref L), (1, .int (nI i)), (2, .ref b)]) hx hb d_A_add_20 rfl hl (by decide) rfl (fun ls hl => ?_)
  refine lv_aload_n hx hb d_A_add_21 rfl (lv_at hl 1 rfl) ?_
  refine gf_A_9 C0 hH hw1_L rfl d_A_add_22 ?_
  refine lv_dup hx hb d_A_add_25 rfl ?_
  refine lv_astore (lv' := [(4, .ref E), (3, .int (nI k)), (0, .ref L), (1, .int (nI i)), (2, .ref b)]) hx hb d_A_add_26 hl (by decide) rfl (fun ls hl => ?_)
  refine hd_alen hx hb C0.hK hH 3 hw1_E rfl (v := nI k) rfl d_A_add_28 ?_
  refine lv_icmp_ne (tgt := 38) hx hb d_A_add_29 (by decide) (fun c_29 => ?_) (fun c_29 => ?_)
  · exact absurd rfl c_29
  · refine lv_aload_n hx hb d_A_add_32 rfl (lv_at hl 2 rfl) ?_
    refine gn_q (runV C0 (k_A_grow1 l G w1 hw1_L hw1_E h0 hN hqw1_0) (cs_A_129 C0 ⟨Nat.le_of_ble_eq_true rfl, Nat.le_of_ble_eq_true rfl⟩) hH hS (hd_recv C0.hK hH rfl hw1_L) rfl hl.1 rfl (lv_room (Nat.le_of_ble_eq_true rfl)) d_A_add_33 ⟨by show _ ≤ 1; omega, by show _ ≤ (k + max 1 (k / 2)); omega⟩) hS (fun r2 w2 H locs hp2 hH hS => ?_)
    obtain ⟨E1, rfl, hnE1, ew2⟩ := hp2
    have hw2_L : w2 L = some (.inr (0, [.int (md + 1), .ref E1, .int (nI k)])) := by rw [ew2]; exact va_up_self _ _ _
    have hw2_E1 : w2 E1 = some (.inl (G.2.1.2.2.2, (k + max 1 (k / 2)), .inr (.inr (.inr (.inr (va_cpy f (fun _ => none) 0 0 k)))))) := by rw [ew2, va_up_ne _ _ (wnf hw1_L hnE1).symm]; exact va_up_self _ _ _
    have hw2_b : w2 b = some (.inr (1, [v1, v2, v3, v4, v5])) := by rw [ew2, va_up_ne _ _ (wne hw1_b hw1_L (by simp)), va_up_ne _ _ (wnf hw1_b hnE1)]; exact hw1_b
    have hnE0 : w E1 = none := by have h := hnE1; rw [ew1] at h; exact up_none h
    have hqw2 : ∀ j : Nat, j < k → ∃ (y : Nat) (vs : List Value), (va_cpy f (fun _ => none) 0 0 k) j = some y ∧ w2 y = some (.inr (1, vs)) := fun j hj => by obtain ⟨y, vs, g1, g2⟩ := hqw1_0 j hj; exact ⟨y, vs, by rw [pk_cpy_in (Nat.zero_le _) (by omega), show 0 + (j - 0) = j by omega]; exact g1, by rw [ew2, va_up_ne _ _ (wne g2 hw1_L (by simp)), va_up_ne _ _ (wnf g2 hnE1)]; exact g2⟩
    refine lv_astore (lv' := [(4, .ref E1), (3, .int (nI k)), (0, .ref L), (1, .int (nI i)), (2, .ref b)]) hx hb d_A_add_36 hl (by decide) rfl (fun ls hl => ?_)
    refine lv_aload hx hb d_A_add_38 (lv_at hl 0 rfl) ?_
    refine lv_iload_n hx hb d_A_add_40 rfl (lv_at hl 3 rfl) ?_
    refine lv_aload hx hb d_A_add_41 (lv_at hl 0 rfl) ?_
    refine lv_iload_n hx hb d_A_add_43 rfl (lv_at hl 3 rfl) ?_
    refine lv_iconst (v := 1) hx hb d_A_add_44 (by decide) ?_
    refine lv_iadd hx hb d_A_add_45 ?_
    rw [show ((nI i) + 1) = nI (i + 1) from nI_1 i]
    refine lv_iload_n hx hb d_A_add_46 rfl (lv_at hl 1 rfl) ?_
    refine lv_iload_n hx hb d_A_add_47 rfl (lv_at hl 3 rfl) ?_
    refine lv_isub hx hb d_A_add_48 ?_
    rw [show ((nI k) - (nI i)) = nI (k - i) from pk_sub hi]
    refine hd_copyq (r := ("BoxDrawer$Box", TX, 5)) hx hb (C0.2.2.1.trans hl.1.symm) C0.2.2.2.1 (C0.2.2.2.2.1 _ mw_563) (C0.2.2.2.2.1 _ mw_137) (C0.2.2.2.2.1 _ mw_136) (C0.2.2.2.2.1 _ mw_21) C0.hK hH hS 3 1 hw2_E1 hw2_E1 rfl (C0.ev.2.2.2.2.2.2.1 (Cond.castable "BoxDrawer$Box" "java/lang/Object") (by decide +kernel)) rfl (nI_pos (by omega)) (nI_pos (by omega)) (nI_pos (by omega)) (by rw [nI_clamp (by omega), nI_clamp (by omega)]; omega) (by rw [nI_clamp (by omega), nI_clamp (by omega)]; omega) (fun j hj y hy => by rw [nI_clamp (by omega)] at hj hy; obtain ⟨y2, vs, g1, g2⟩ := hqw2 (i + j) (by omega); rw [g1] at hy; cases hy; exact ⟨vs, g2⟩) (Nat.le_of_ble_eq_true rfl) (Nat.le_of_ble_eq_true rfl) d_A_add_49 (fun H locs hH hS => ?_)
    rw [nI_clamp (by omega), nI_clamp (by omega), nI_clamp (by omega)] at hH
    obtain ⟨w3, ew3⟩ : ∃ z : World, z = va_up w2 E1 (some (.inl (G.2.1.2.2.2, (k + max 1 (k / 2)), .inr (.inr (.inr (.inr (va_cpy (va_cpy f (fun _ => none) 0 0 k) (va_cpy f (fun _ => none) 0 0 k) i (i + 1) (k - i)))))))) := ⟨_, rfl⟩
    have hH : Hw G w3 H := by rw [ew3]; exact hH
    have hw3_L : w3 L = some (.inr (0, [.int (md + 1), .ref E1, .int (nI k)])) := by rw [ew3, va_up_ne _ _ (wne hw2_L hw2_E1 (by simp))]; exact hw2_L
    have hw3_b : w3 b = some (.inr (1, [v1, v2, v3, v4, v5])) := by rw [ew3, va_up_ne _ _ (wne hw2_b hw2_E1 (by simp))]; exact hw2_b
    have hw3_E1 : w3 E1 = some (.inl (G.2.1.2.2.2, (k + max 1 (k / 2)), .inr (.inr (.inr (.inr (va_cpy (va_cpy f (fun _ => none) 0 0 k) (va_cpy f (fun _ => none) 0 0 k) i (i + 1) (k - i))))))) := by rw [ew3]; exact va_up_self _ _ _
    have hqw3_0 : ∀ j : Nat, j < k → ∃ (y : Nat) (vs : List Value), (va_cpy f (fun _ => none) 0 0 k) j = some y ∧ w3 y = some (.inr (1, vs)) := fun j hj => by obtain ⟨y, vs, g1, g2⟩ := hqw2 j hj; exact ⟨y, vs, g1, by rw [ew3, va_up_ne _ _ (wne g2 hw2_E1 (by simp))]; exact g2⟩
    refine lv_aload hx hb d_A_add_52 (lv_at hl 0 rfl) ?_
    refine lv_iload_n hx hb d_A_add_54 rfl (lv_at hl 3 rfl) ?_
    refine lv_aload_n hx hb d_A_add_55 rfl (lv_at hl 4 rfl) ?_
    refine hd_astqO (r := ("BoxDrawer$Box", TX, 5)) hx hb C0.hK hH hS 3 1 hw3_E1 rfl (C0.ev.2.2.2.2.2.2.1 (Cond.castable "BoxDrawer$Box" "java/lang/Object") (by decide +kernel)) hw3_b rfl (vp_in_nI (by omega) (by omega)) d_A_add_56 (fun H locs hH hS => ?_)
    rw [nI_clamp (by omega)] at hH
    obtain ⟨w4, ew4⟩ : ∃ z : World, z = va_up w3 E1 (some (.inl (G.2.1.2.2.2, (k + max 1 (k / 2)), .inr (.inr (.inr (.inr (va_up (va_cpy (va_cpy f (fun _ => none) 0 0 k) (va_cpy f (fun _ => none) 0 0 k) i (i + 1) (k - i)) i (some b)))))))) := ⟨_, rfl⟩
    have hH : Hw G w4 H := by rw [ew4]; exact hH
    have hw4_L : w4 L = some (.inr (0, [.int (md + 1), .ref E1, .int (nI k)])) := by rw [ew4, va_up_ne _ _ (wne hw3_L hw3_E1 (by simp))]; exact hw3_L
    have hw4_b : w4 b = some (.inr (1, [v1, v2, v3, v4, v5])) := by rw [ew4, va_up_ne _ _ (wne hw3_b hw3_E1 (by simp))]; exact hw3_b
    have hw4_E1 : w4 E1 = some (.inl (G.2.1.2.2.2, (k + max 1 (k / 2)), .inr (.inr (.inr (.inr (va_up (va_cpy (va_cpy f (fun _ => none) 0 0 k) (va_cpy f (fun _ => none) 0 0 k) i (i + 1) (k - i)) i (some b))))))) := by rw [ew4]; exact va_up_self _ _ _
    have hqw4_0 : ∀ j : Nat, j < k → ∃ (y : Nat) (vs : List Value), (va_cpy f (fun _ => none) 0 0 k) j = some y ∧ w4 y = some (.inr (1, vs)) := fun j hj => by obtain ⟨y, vs, g1, g2⟩ := hqw3_0 j hj; exact ⟨y, vs, g1, by rw [ew4, va_up_ne _ _ (wne g2 hw3_E1 (by simp))]; exact g2⟩
    refine lv_aload_n hx hb d_A_add_57 rfl (lv_at hl 2 rfl) ?_
    refine lv_iload_n hx hb d_A_add_58 rfl (lv_at hl 1 rfl) ?_
    refine lv_iconst (v := 1) hx hb d_A_add_59 (by decide) ?_
    refine lv_iadd hx hb d_A_add_60 ?_
    rw [show ((nI k) + 1) = nI (k + 1) from nI_1 k]
    refine pf_A_48 C0 hH hS hw4_L rfl rfl (Nat.le_of_ble_eq_true rfl) d_A_add_61 (fun H locs hH hS => ?_)
    obtain ⟨w5, ew5⟩ : ∃ z : World, z = va_up w4 L (some (.inr (0, [.int (md + 1), .ref E1, .int (nI (k + 1))]))) := ⟨_, rfl⟩
    have hH : Hw G w5 H := by rw [ew5]; exact hH
    have hw5_b : w5 b = some (.inr (1, [v1, v2, v3, v4, v5])) := by rw [ew5, va_up_ne _ _ (wne hw4_b hw4_L (by simp))]; exact hw4_b
    have hw5_E1 : w5 E1 = some (.inl (G.2.1.2.2.2, (k + max 1 (k / 2)), .inr (.inr (.inr (.inr (va_up (va_cpy (va_cpy f (fun _ => none) 0 0 k) (va_cpy f (fun _ => none) 0 0 k) i (i + 1) (k - i)) i (some b))))))) := by rw [ew5, va_up_ne _ _ (wne hw4_E1 hw4_L (by simp))]; exact hw4_E1
    have hw5_L : w5 L = some (.inr (0, [.int (md + 1), .ref E1, .int (nI (k + 1))])) := by rw [ew5]; exact va_up_self _ _ _
    have hqw5_0 : ∀ j : Nat, j < k → ∃ (y : Nat) (vs : List Value), (va_cpy f (fun _ => none) 0 0 k) j = some y ∧ w5 y = some (.inr (1, vs)) := fun j hj => by obtain ⟨y, vs, g1, g2⟩ := hqw4_0 j hj; exact ⟨y, vs, g1, by rw [ew5, va_up_ne _ _ (wne g2 hw4_L (by simp))]; exact g2⟩
    refine W.widen (k := 1) (n := (k + max 1 (k / 2))) (by omega) (by omega) ?_
    exact W.vret hx hb hr (fun t ht hW => ⟨⟨w5, rfl, (by obtain ⟨a1, a2, a3⟩ := add_f (fa := va_cpy f (fun _ => none) 0 0 k) (f := f) (b := b) hi (fun j hj => by rw [pk_cpy_in (Nat.zero_le _) (by omega), show 0 + (j - 0) = j by omega]); exact ⟨E1, _, _, hw5_L, hw5_E1, a1, a2, a3, Or.inr hnE0, by rw [ew5, ew4, ew3, ew2, ew1]; exact (by have hin0 : L ∈ [L, E] := List.mem_cons_self ..; exact ((((((Kp.up (Or.inl hin0)).ups (Or.inr hnE0)).ups (Or.inl hin0)).ups (Or.inr hnE0)).ups (Or.inr hnE0)).ups (Or.inl hin0)))⟩), Wo.at C0.ev hH hS ht hW⟩, hS.F ht⟩) hS.2.2 d_A_add_64 (hlocks := C0.2.2.2.2.2.2)

set_option maxHeartbeats 4000000 in
set_option maxRecDepth 100000 in
theorem k_A_add2 (l : Launch) (G : Gl) (w : World) {L : Nat} {md : Int32} (hL : w L = some (.inr (0, [.int md, .ref (ge0 G), .int (nI 0)]))) {b : Nat} {v1 v2 v3 v4 v5 : Value} (hb9 : w b = some (.inr (1, [v1, v2, v3, v4, v5])))  :
    GnV l y_A_add ws_A_add 5 1 10 G w [.ref L, .int (nI 0), .ref b] (fun w1 => ∀ f : Nat → Option Nat, AddQ G w w1 L (ge0 G) 0 0 b 10 f) := by
  refine met_ent (by decide +kernel) (Nat.le_of_ble_eq_true rfl) (fun p e s m below meth c ls C0 hr hin hH hl => ?_)
  have hx := C0.1
  have hb := C0.2.1
  have hS : va_S (gA G) s.heap s.heap [] := va_S.rf
  have hA : ∀ q : Nat, s.heap.size ≤ q → gA G q := fun q h => Nat.le_trans C0.ev.2.2.2.2.2.2.2.2.2.2.2.2 h
  have hl : lv_has ls 5 [(0, .ref L), (1, .int (nI 0)), (2, .ref b)] := hl
  refine lv_aload_n hx hb d_A_add_0 rfl (lv_at hl 0 rfl) ?_
  refine lv_iload_n hx hb d_A_add_1 rfl (lv_at hl 1 rfl) ?_
  refine pu_n (runV C0 (k_A_rangeCheckForAdd l G w hL (Nat.le_refl _) (by omega)) (cs_A_135 C0 ⟨Nat.le_of_ble_eq_true rfl, Nat.le_of_ble_eq_true rfl⟩) hH hS (hd_recv C0.hK hH rfl hL) rfl hl.1 rfl (lv_room (Nat.le_of_ble_eq_true rfl)) d_A_add_2 ⟨by show _ ≤ 1; omega, by show _ ≤ 10; omega⟩) ?_
  refine lv_aload_n hx hb d_A_add_5 rfl (lv_at hl 0 rfl) ?_
  refine lv_dup hx hb d_A_add_6 rfl ?_
  refine gf_A_63 C0 hH hL rfl d_A_add_7 ?_
  refine lv_iconst (v := 1) hx hb d_A_add_10 (by decide) ?_
  refine lv_iadd hx hb d_A_add_11 ?_
  refine pf_A_63 C0 hH hS hL rfl rfl (Nat.le_of_ble_eq_true rfl) d_A_add_12 (fun H locs hH hS => ?_)
  obtain ⟨w1, ew1⟩ : ∃ z : World, z = va_up w L (some (.inr (0, [.int (md + 1), .ref (ge0 G), .int (nI 0)]))) := ⟨_, rfl⟩
  have hH : Hw G w1 H := by rw [ew1]; exact hH
  have hw1_b : w1 b = some (.inr (1, [v1, v2, v3, v4, v5])) := by rw [ew1, va_up_ne _ _ (wne hb9 hL (by simp))]; exact hb9
  have hw1_L : w1 L = some (.inr (0, [.int (md + 1), .ref (ge0 G), .int (nI 0)])) := by rw [ew1]; exact va_up_self _ _ _
  refine lv_aload_n hx hb d_A_add_15 rfl (lv_at hl 0 rfl) ?_
  refine gf_A_48 C0 hH hw1_L rfl d_A_add_16 ?_
  refine lv_dup hx hb d_A_add_19 rfl ?_
  refine lv_istore_n (lv' := [(3, .int (nI 0)), (0, .ref L), (1, .int (nI 0)), (2, .ref b)]) hx hb d_A_add_20 rfl hl (by decide) rfl (fun ls hl => ?_)
  refine lv_aload_n hx hb d_A_add_21 rfl (lv_at hl 1 rfl) ?_
  refine gf_A_9 C0 hH hw1_L rfl d_A_add_22 ?_
  refine lv_dup hx hb d_A_add_25 rfl ?_
  refine lv_astore (lv' := [(4, .ref (ge0 G)), (3, .int (nI 0)), (0, .ref L), (1, .int (nI 0)), (2, .ref b)]) hx hb d_A_add_26 hl (by decide) rfl (fun ls hl => ?_)
  refine e0_len C0 hS d_A_add_28 ?_
  refine lv_icmp_ne (tgt := 38) hx hb d_A_add_29 (by decide) (fun c_29 => ?_) (fun c_29 => ?_)
  · exact absurd rfl c_29
  · refine lv_aload_n hx hb d_A_add_32 rfl (lv_at hl 2 rfl) ?_
    refine gn_q (runV C0 (k_A_grow0 l G w1 hw1_L) (cs_A_129 C0 ⟨Nat.le_of_ble_eq_true rfl, Nat.le_of_ble_eq_true rfl⟩) hH hS (hd_recv C0.hK hH rfl hw1_L) rfl hl.1 rfl (lv_room (Nat.le_of_ble_eq_true rfl)) d_A_add_33 ⟨by show _ ≤ 1; omega, by show _ ≤ 10; omega⟩) hS (fun r2 w2 H locs hp2 hH hS => ?_)
    obtain ⟨E1, rfl, hnE1, ew2⟩ := hp2
    have hw2_L : w2 L = some (.inr (0, [.int (md + 1), .ref E1, .int (nI 0)])) := by rw [ew2]; exact va_up_self _ _ _
    have hw2_E1 : w2 E1 = some (.inl (G.2.1.2.2.2, 10, .inr (.inr (.inr (.inr (fun _ => none)))))) := by rw [ew2, va_up_ne _ _ (wnf hw1_L hnE1).symm]; exact va_up_self _ _ _
    have hw2_b : w2 b = some (.inr (1, [v1, v2, v3, v4, v5])) := by rw [ew2, va_up_ne _ _ (wne hw1_b hw1_L (by simp)), va_up_ne _ _ (wnf hw1_b hnE1)]; exact hw1_b
    have hnE0 : w E1 = none := by have h := hnE1; rw [ew1] at h; exact up_none h
    have hqw2 : ∀ j : Nat, j < 0 → ∃ (y : Nat) (vs : List Value), (fun _ => none : Nat → Option Nat) j = some y ∧ w2 y = some (.inr (1, vs)) := fun j hj => absurd hj (Nat.not_lt_zero _)
    refine lv_astore (lv' := [(4, .ref E1), (3, .int (nI 0)), (0, .ref L), (1, .int (nI 0)), (2, .ref b)]) hx hb d_A_add_36 hl (by decide) rfl (fun ls hl => ?_)
    refine lv_aload hx hb d_A_add_38 (lv_at hl 0 rfl) ?_
    refine lv_iload_n hx hb d_A_add_40 rfl (lv_at hl 3 rfl) ?_
    refine lv_aload hx hb d_A_add_41 (lv_at hl 0 rfl) ?_
    refine lv_iload_n hx hb d_A_add_43 rfl (lv_at hl 3 rfl) ?_
    refine lv_iconst (v := 1) hx hb d_A_add_44 (by decide) ?_
    refine lv_iadd hx hb d_A_add_45 ?_
    rw [show ((nI 0) + 1) = nI (0 + 1) from nI_1 0]
    refine lv_iload_n hx hb d_A_add_46 rfl (lv_at hl 1 rfl) ?_
    refine lv_iload_n hx hb d_A_add_47 rfl (lv_at hl 3 rfl) ?_
    refine lv_isub hx hb d_A_add_48 ?_
    rw [show nI 0 - nI 0 = nI (0 - 0) from pk_sub (Nat.le_refl _)]
    refine hd_copyq (r := ("BoxDrawer$Box", TX, 5)) hx hb (C0.2.2.1.trans hl.1.symm) C0.2.2.2.1 (C0.2.2.2.2.1 _ mw_563) (C0.2.2.2.2.1 _ mw_137) (C0.2.2.2.2.1 _ mw_136) (C0.2.2.2.2.1 _ mw_21) C0.hK hH hS 3 1 hw2_E1 hw2_E1 rfl (C0.ev.2.2.2.2.2.2.1 (Cond.castable "BoxDrawer$Box" "java/lang/Object") (by decide +kernel)) rfl (nI_pos (by omega)) (nI_pos (by omega)) (nI_pos (by omega)) (by (repeat rw [nI_clamp (by omega)]); omega) (by (repeat rw [nI_clamp (by omega)]); omega) (fun j hj y hy => by rw [nI_clamp (by omega)] at hj; exact absurd hj (by omega)) (Nat.le_of_ble_eq_true rfl) (Nat.le_of_ble_eq_true rfl) d_A_add_49 (fun H locs hH hS => ?_)
    repeat rw [nI_clamp (by omega)] at hH
    obtain ⟨w3, ew3⟩ : ∃ z : World, z = va_up w2 E1 (some (.inl (G.2.1.2.2.2, 10, .inr (.inr (.inr (.inr (va_cpy (fun _ => none) (fun _ => none) 0 (0 + 1) (0 - 0)))))))) := ⟨_, rfl⟩
    have hH : Hw G w3 H := by rw [ew3]; exact hH
    have hw3_L : w3 L = some (.inr (0, [.int (md + 1), .ref E1, .int (nI 0)])) := by rw [ew3, va_up_ne _ _ (wne hw2_L hw2_E1 (by simp))]; exact hw2_L
    have hw3_b : w3 b = some (.inr (1, [v1, v2, v3, v4, v5])) := by rw [ew3, va_up_ne _ _ (wne hw2_b hw2_E1 (by simp))]; exact hw2_b
    have hw3_E1 : w3 E1 = some (.inl (G.2.1.2.2.2, 10, .inr (.inr (.inr (.inr (va_cpy (fun _ => none) (fun _ => none) 0 (0 + 1) (0 - 0))))))) := by rw [ew3]; exact va_up_self _ _ _
    have hqw3_0 : ∀ j : Nat, j < 0 → ∃ (y : Nat) (vs : List Value), (fun _ => none : Nat → Option Nat) j = some y ∧ w3 y = some (.inr (1, vs)) := fun j hj => by obtain ⟨y, vs, g1, g2⟩ := hqw2 j hj; exact ⟨y, vs, g1, by rw [ew3, va_up_ne _ _ (wne g2 hw2_E1 (by simp))]; exact g2⟩
    refine lv_aload hx hb d_A_add_52 (lv_at hl 0 rfl) ?_
    refine lv_iload_n hx hb d_A_add_54 rfl (lv_at hl 3 rfl) ?_
    refine lv_aload_n hx hb d_A_add_55 rfl (lv_at hl 4 rfl) ?_
    refine hd_astqO (r := ("BoxDrawer$Box", TX, 5)) hx hb C0.hK hH hS 3 1 hw3_E1 rfl (C0.ev.2.2.2.2.2.2.1 (Cond.castable "BoxDrawer$Box" "java/lang/Object") (by decide +kernel)) hw3_b rfl (vp_in_nI (by omega) (by omega)) d_A_add_56 (fun H locs hH hS => ?_)
    rw [nI_clamp (by omega)] at hH
    obtain ⟨w4, ew4⟩ : ∃ z : World, z = va_up w3 E1 (some (.inl (G.2.1.2.2.2, 10, .inr (.inr (.inr (.inr (va_up (va_cpy (fun _ => none) (fun _ => none) 0 (0 + 1) (0 - 0)) 0 (some b)))))))) := ⟨_, rfl⟩
    have hH : Hw G w4 H := by rw [ew4]; exact hH
    have hw4_L : w4 L = some (.inr (0, [.int (md + 1), .ref E1, .int (nI 0)])) := by rw [ew4, va_up_ne _ _ (wne hw3_L hw3_E1 (by simp))]; exact hw3_L
    have hw4_b : w4 b = some (.inr (1, [v1, v2, v3, v4, v5])) := by rw [ew4, va_up_ne _ _ (wne hw3_b hw3_E1 (by simp))]; exact hw3_b
    have hw4_E1 : w4 E1 = some (.inl (G.2.1.2.2.2, 10, .inr (.inr (.inr (.inr (va_up (va_cpy (fun _ => none) (fun _ => none) 0 (0 + 1) (0 - 0)) 0 (some b))))))) := by rw [ew4]; exact va_up_self _ _ _
    have hqw4_0 : ∀ j : Nat, j < 0 → ∃ (y : Nat) (vs : List Value), (fun _ => none : Nat → Option Nat) j = some y ∧ w4 y = some (.inr (1, vs)) := fun j hj => by obtain ⟨y, vs, g1, g2⟩ := hqw3_0 j hj; exact ⟨y, vs, g1, by rw [ew4, va_up_ne _ _ (wne g2 hw3_E1 (by simp))]; exact g2⟩
    refine lv_aload_n hx hb d_A_add_57 rfl (lv_at hl 2 rfl) ?_
    refine lv_iload_n hx hb d_A_add_58 rfl (lv_at hl 1 rfl) ?_
    refine lv_iconst (v := 1) hx hb d_A_add_59 (by decide) ?_
    refine lv_iadd hx hb d_A_add_60 ?_
    rw [show ((nI 0) + 1) = nI (0 + 1) from nI_1 0]
    refine pf_A_48 C0 hH hS hw4_L rfl rfl (Nat.le_of_ble_eq_true rfl) d_A_add_61 (fun H locs hH hS => ?_)
    obtain ⟨w5, ew5⟩ : ∃ z : World, z = va_up w4 L (some (.inr (0, [.int (md + 1), .ref E1, .int (nI (0 + 1))]))) := ⟨_, rfl⟩
    have hH : Hw G w5 H := by rw [ew5]; exact hH
    have hw5_b : w5 b = some (.inr (1, [v1, v2, v3, v4, v5])) := by rw [ew5, va_up_ne _ _ (wne hw4_b hw4_L (by simp))]; exact hw4_b
    have hw5_E1 : w5 E1 = some (.inl (G.2.1.2.2.2, 10, .inr (.inr (.inr (.inr (va_up (va_cpy (fun _ => none) (fun _ => none) 0 (0 + 1) (0 - 0)) 0 (some b))))))) := by rw [ew5, va_up_ne _ _ (wne hw4_E1 hw4_L (by simp))]; exact hw4_E1
    have hw5_L : w5 L = some (.inr (0, [.int (md + 1), .ref E1, .int (nI (0 + 1))])) := by rw [ew5]; exact va_up_self _ _ _
    have hqw5_0 : ∀ j : Nat, j < 0 → ∃ (y : Nat) (vs : List Value), (fun _ => none : Nat → Option Nat) j = some y ∧ w5 y = some (.inr (1, vs)) := fun j hj => by obtain ⟨y, vs, g1, g2⟩ := hqw4_0 j hj; exact ⟨y, vs, g1, by rw [ew5, va_up_ne _ _ (wne g2 hw4_L (by simp))]; exact g2⟩
    refine W.widen (k := 1) (n := 10) (by omega) (by omega) ?_
    exact W.vret hx hb hr (fun t ht hW => ⟨⟨w5, rfl, (by intro f; obtain ⟨a1, a2, a3⟩ := add_f (fa := fun _ => none) (f := f) (b := b) (Nat.le_refl 0) (fun j hj => absurd hj (Nat.not_lt_zero _)); exact ⟨E1, _, _, hw5_L, hw5_E1, a1, a2, a3, Or.inr hnE0, by rw [ew5, ew4, ew3, ew2, ew1]; exact (by have hin0 : L ∈ [L, ge0 G] := List.mem_cons_self ..; exact ((((((Kp.up (Or.inl hin0)).ups (Or.inr hnE0)).ups (Or.inl hin0)).ups (Or.inr hnE0)).ups (Or.inr hnE0)).ups (Or.inl hin0)))⟩), Wo.at C0.ev hH hS ht hW⟩, hS.F ht⟩) hS.2.2 d_A_add_64 (hlocks := C0.2.2.2.2.2.2)
