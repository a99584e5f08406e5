/-! the row of the result grows; distances -/
theorem wne {w : World} {a b : Nat} {e f : va_E} (h1 : w a = some e) (h2 : w b = some f) (hne : e ≠ f) : a ≠ b := fun q => by
  subst q
  exact hne (Option.some.inj (h1.symm.trans h2))
theorem wnf {w : World} {a b : Nat} {e : va_E} (h1 : w a = some e) (h2 : w b = none) : a ≠ b := fun q => by
  subst q
  rw [h1] at h2
  cases h2
theorem min_nI {a b : Nat} (ha : a < 2 ^ 31) (hb : b < 2 ^ 31) : (if nI b < nI a then nI b else nI a) = nI (min a b) := by
  by_cases h : b < a
  · rw [if_pos (nI_lt h ha), Nat.min_eq_right (by omega)]
  · rw [if_neg (nI_nlt (by omega) hb), Nat.min_eq_left (by omega)]
theorem max_nI {a b : Nat} (ha : a < 2 ^ 31) (hb : b < 2 ^ 31) : (if nI a < nI b then nI b else nI a) = nI (max a b) := by
  by_cases h : a < b
  · rw [if_pos (nI_lt h hb), Nat.max_eq_right (by omega)]
  · rw [if_neg (nI_nlt (by omega) ha), Nat.max_eq_left (by omega)]

set_option maxHeartbeats 4000000 in
set_option maxRecDepth 100000 in
theorem k_R_copyOf (l : Launch) (G : Gl) (w : World) {a cF : Nat} {g : Nat → Int32} (c1 : Nat) (ha : w a = some (.inl (G.2.1.1, cF, .inl g))) (h1 : cF < c1) (h2 : c1 ≤ 4096) :
    GnQ l y_R_copyOf ws_R_copyOf 1 1 c1 G w [.ref a, .int (nI c1)] (fun r w1 => ∃ q : Nat, r = some q ∧ w q = none ∧ w1 = va_up w q (some (.inl (G.2.1.1, c1, .inl (va_cpy g (fun _ => 0) 0 0 cF))))) := by
  refine met_ent (by decide +kernel) (Nat.le_of_ble_eq_true rfl) (fun p e s m below meth c ls C0 hr hin hH hl => ?_)
  have hx := C0.1
  have hb := C0.2.1
  have hS : va_S (gA G) s.heap s.heap [] := va_S.rf
  have hA : ∀ q : Nat, s.heap.size ≤ q → gA G q := fun q h => Nat.le_trans C0.ev.2.2.2.2.2.2.2.2.2.2.2.2 h
  have hl : lv_has ls 3 [(0, .ref a), (1, .int (nI c1))] := hl
  refine lv_iload_n hx hb d_R_copyOf_0 rfl (lv_at hl 1 rfl) ?_
  refine lv_aload_n hx hb d_R_copyOf_1 rfl (lv_at hl 0 rfl) ?_
  refine hd_alen hx hb C0.hK hH 0 ha rfl (v := nI cF) rfl d_R_copyOf_2 ?_
  refine lv_icmp_ne (tgt := 14) hx hb d_R_copyOf_3 (by decide) (fun c_3 => ?_) (fun c_3 => ?_)
  · refine lv_iload_n hx hb d_R_copyOf_14 rfl (lv_at hl 1 rfl) ?_
    refine hd_newa (atype := .int) (N' := c1) (a0 := (c1, .inl (fun _ => 0))) hx hb (C0.2.2.2.2.1 _ mw_72) rfl (by intro C h; cases h) C0.hK 0 rfl hH hS hA (fun _ => rfl) (nI_pos (by omega)) (nI_clamp (by omega)) (by show _ * 4 ≤ _; omega) (by show _ ≤ 1; omega) (by show _ ≤ c1; omega) d_R_copyOf_15 (fun q15 H hnq15 hH hS => ?_)
    obtain ⟨w1, ew1⟩ : ∃ z : World, z = va_up w q15 (some (.inl (G.2.1.1, c1, .inl (fun _ => 0)))) := ⟨_, rfl⟩
    have hH : Hw G w1 H := by rw [ew1]; exact hH
    have hw1_a : w1 a = some (.inl (G.2.1.1, cF, .inl g)) := by rw [ew1, va_up_ne _ _ (wnf ha hnq15)]; exact ha
    have hw1_q15 : w1 q15 = some (.inl (G.2.1.1, c1, .inl (fun _ => 0))) := by rw [ew1]; exact va_up_self _ _ _
    refine lv_astore_n (lv' := [(2, .ref q15), (0, .ref a), (1, .int (nI c1))]) hx hb d_R_copyOf_17 rfl hl (by decide) rfl (fun ls hl => ?_)
    refine lv_aload_n hx hb d_R_copyOf_18 rfl (lv_at hl 1 rfl) ?_
    refine lv_iconst (v := 0) hx hb d_R_copyOf_19 (by decide) ?_
    refine lv_aload_n hx hb d_R_copyOf_20 rfl (lv_at hl 0 rfl) ?_
    refine lv_iconst (v := 0) hx hb d_R_copyOf_21 (by decide) ?_
    refine lv_aload_n hx hb d_R_copyOf_22 rfl (lv_at hl 1 rfl) ?_
    refine hd_alen hx hb C0.hK hH 0 hw1_a rfl (v := nI cF) rfl d_R_copyOf_23 ?_
    refine lv_iload_n hx hb d_R_copyOf_24 rfl (lv_at hl 2 rfl) ?_
    refine va_mmin hx hb (C0.2.2.1.trans hl.1.symm) C0.2.2.2.1 (C0.2.2.2.2.1 _ mw_134) (C0.2.2.2.2.1 _ mw_122) (C0.2.2.2.2.1 _ mw_19) (C0.2.2.2.2.1 _ mw_123) (Nat.le_of_ble_eq_true rfl) (Nat.le_of_ble_eq_true rfl) (by show _ ≤ 1; omega) (by show _ ≤ c1; omega) d_R_copyOf_25 ?_
    rw [show (if (nI c1) < (nI cF) then (nI c1) else (nI cF)) = nI cF from ((min_nI (by omega) (by omega)).trans (by rw [Nat.min_eq_left (by omega)]))]
    refine hd_copyi hx hb (C0.2.2.1.trans hl.1.symm) C0.2.2.2.1 (C0.2.2.2.2.1 _ mw_135) (C0.2.2.2.2.1 _ mw_137) (C0.2.2.2.2.1 _ mw_136) (C0.2.2.2.2.1 _ mw_21) C0.hK hH hS 0 hw1_a hw1_q15 rfl (by decide) (by decide) (nI_pos (by omega)) (by rw [nI_clamp (by omega), sb_cl0]; omega) (by rw [nI_clamp (by omega), sb_cl0]; omega) (Nat.le_of_ble_eq_true rfl) (Nat.le_of_ble_eq_true rfl) d_R_copyOf_28 (fun H locs hH hS => ?_)
    rw [nI_clamp (by omega), sb_cl0] at hH
    obtain ⟨w2, ew2⟩ : ∃ z : World, z = va_up w1 q15 (some (.inl (G.2.1.1, c1, .inl (va_cpy g (fun _ => 0) 0 0 cF)))) := ⟨_, rfl⟩
    have hH : Hw G w2 H := by rw [ew2]; exact hH
    have hw2_a : w2 a = some (.inl (G.2.1.1, cF, .inl g)) := by rw [ew2, va_up_ne _ _ (wnf ha hnq15)]; exact hw1_a
    have hw2_q15 : w2 q15 = some (.inl (G.2.1.1, c1, .inl (va_cpy g (fun _ => 0) 0 0 cF))) := by rw [ew2]; exact va_up_self _ _ _
    refine lv_aload_n hx hb d_R_copyOf_31 rfl (lv_at hl 0 rfl) ?_
    refine W.widen (k := 1) (n := c1) (by omega) (by omega) ?_
    exact W.aret hx hb hr (Or.inr ⟨_, rfl⟩) (Or.inr ⟨_, rfl⟩) (fun t ht hW => ⟨⟨some q15, w2, rfl, ⟨_, rfl, hnq15, by rw [ew2, ew1, bx_uu]⟩, Wo.at C0.ev hH hS ht hW⟩, hS.F ht⟩) hS.2.2 d_R_copyOf_32 (hlocks := C0.2.2.2.2.2.2)
  · exact absurd ((nI_eq (by omega) (by omega)).mp c_3) (by omega)

set_option maxHeartbeats 4000000 in
set_option maxRecDepth 100000 in
theorem k_B_makeRoom0 (l : Launch) (G : Gl) (w : World) {x L F Gd cF : Nat} {n : Int32} {g : Nat → Int32} (hB : w x = some (.inr (2, [.ref L, .ref F, .int n, .ref Gd]))) (hF : w F = some (.inl (G.2.1.1, cF, .inl g))) (k : Nat) (h1 : k ≤ cF ∨ 4096 ≤ cF) (hk : k ≤ 100000) (h2 : cF ≤ 4096) :
    PuM l y_B_makeRoom ws_B_makeRoom 2 G w [.ref x, .int (nI k)] none := by
  refine met_ent (by decide +kernel) (Nat.le_of_ble_eq_true rfl) (fun p e s m below meth c ls C0 hr hin hH hl => ?_)
  have hx := C0.1
  have hb := C0.2.1
  have hS : va_S (gA G) s.heap s.heap [] := va_S.rf
  have hA : ∀ q : Nat, s.heap.size ≤ q → gA G q := fun q h => Nat.le_trans C0.ev.2.2.2.2.2.2.2.2.2.2.2.2 h
  have hl : lv_has ls 3 [(0, .ref x), (1, .int (nI k))] := hl
  refine lv_iload_n hx hb d_B_makeRoom_0 rfl (lv_at hl 1 rfl) ?_
  refine lv_aload_n hx hb d_B_makeRoom_1 rfl (lv_at hl 0 rfl) ?_
  refine gf_B_16 C0 hH hB rfl d_B_makeRoom_2 ?_
  refine hd_alen hx hb C0.hK hH 0 hF rfl (v := nI cF) rfl d_B_makeRoom_5 ?_
  refine lv_icmp_le (tgt := 50) hx hb d_B_makeRoom_6 (by decide) (fun c_6 => ?_) (fun c_6 => ?_)
  · exact W.vret hx hb hr (fun t ht _ => ⟨rfl, ht⟩) (fun _ h => by cases h) d_B_makeRoom_50 (hlocks := C0.2.2.2.2.2.2)
  · refine lv_aload_n hx hb d_B_makeRoom_9 rfl (lv_at hl 0 rfl) ?_
    refine gf_B_16 C0 hH hB rfl d_B_makeRoom_10 ?_
    refine hd_alen hx hb C0.hK hH 0 hF rfl (v := nI cF) rfl d_B_makeRoom_13 ?_
    refine lv_sipush (v := 4096) hx hb d_B_makeRoom_14 (by decide) ?_
    refine lv_icmp_ge (tgt := 50) hx hb d_B_makeRoom_17 (by decide) (fun c_17 => ?_) (fun c_17 => ?_)
    · exact W.vret hx hb hr (fun t ht _ => ⟨rfl, ht⟩) (fun _ h => by cases h) d_B_makeRoom_50 (hlocks := C0.2.2.2.2.2.2)
    · exact absurd h1 (fun h => h.elim (fun h => c_6 (nI_le h (by omega))) (fun h => c_17 (show nI 4096 ≤ nI cF from nI_le h (by omega))))

set_option maxHeartbeats 4000000 in
set_option maxRecDepth 100000 in
theorem k_B_makeRoom1 (l : Launch) (G : Gl) (w : World) {x L F Gd cF : Nat} {n : Int32} {g : Nat → Int32} (hB : w x = some (.inr (2, [.ref L, .ref F, .int n, .ref Gd]))) (hF : w F = some (.inl (G.2.1.1, cF, .inl g))) (k c1 : Nat) (h1 : cF < k) (h0 : k ≤ 100000) (h2 : cF < 4096) (hc : c1 = min (max k (2 * cF)) 4096) :
    GnV l y_B_makeRoom ws_B_makeRoom 2 1 c1 G w [.ref x, .int (nI k)] (fun w1 => ∃ F1 : Nat, w F1 = none ∧ w1 = va_up (va_up w F1 (some (.inl (G.2.1.1, c1, .inl (va_cpy g (fun _ => 0) 0 0 cF))))) x (some (.inr (2, [.ref L, .ref F1, .int n, .ref Gd])))) := by
  refine met_ent (by decide +kernel) (Nat.le_of_ble_eq_true rfl) (fun p e s m below meth c ls C0 hr hin hH hl => ?_)
  have hx := C0.1
  have hb := C0.2.1
  have hS : va_S (gA G) s.heap s.heap [] := va_S.rf
  have hA : ∀ q : Nat, s.heap.size ≤ q → gA G q := fun q h => Nat.le_trans C0.ev.2.2.2.2.2.2.2.2.2.2.2.2 h
  have hl : lv_has ls 3 [(0, .ref x), (1, .int (nI k))] := hl
  refine lv_iload_n hx hb d_B_makeRoom_0 rfl (lv_at hl 1 rfl) ?_
  refine lv_aload_n hx hb d_B_makeRoom_1 rfl (lv_at hl 0 rfl) ?_
  refine gf_B_16 C0 hH hB rfl d_B_makeRoom_2 ?_
  refine hd_alen hx hb C0.hK hH 0 hF rfl (v := nI cF) rfl d_B_makeRoom_5 ?_
  refine lv_icmp_le (tgt := 50) hx hb d_B_makeRoom_6 (by decide) (fun c_6 => ?_) (fun c_6 => ?_)
  · exact absurd c_6 (Int32.not_le.mpr (nI_lt h1 (by omega)))
  · refine lv_aload_n hx hb d_B_makeRoom_9 rfl (lv_at hl 0 rfl) ?_
    refine gf_B_16 C0 hH hB rfl d_B_makeRoom_10 ?_
    refine hd_alen hx hb C0.hK hH 0 hF rfl (v := nI cF) rfl d_B_makeRoom_13 ?_
    refine lv_sipush (v := 4096) hx hb d_B_makeRoom_14 (by decide) ?_
    refine lv_icmp_ge (tgt := 50) hx hb d_B_makeRoom_17 (by decide) (fun c_17 => ?_) (fun c_17 => ?_)
    · exact absurd c_17 (Int32.not_le.mpr (show nI cF < nI 4096 from nI_lt h2 (by omega)))
    · refine lv_iload_n hx hb d_B_makeRoom_20 rfl (lv_at hl 1 rfl) ?_
      refine lv_iconst (v := 2) hx hb d_B_makeRoom_21 (by decide) ?_
      refine lv_aload_n hx hb d_B_makeRoom_22 rfl (lv_at hl 0 rfl) ?_
      refine gf_B_16 C0 hH hB rfl d_B_makeRoom_23 ?_
      refine hd_alen hx hb C0.hK hH 0 hF rfl (v := nI cF) rfl d_B_makeRoom_26 ?_
      refine lv_imul hx hb d_B_makeRoom_27 ?_
      rw [show (2 : Int32) * nI cF = nI (2 * cF) from pk_mul 2 cF]
      refine va_mmax hx hb (C0.2.2.1.trans hl.1.symm) C0.2.2.2.1 (C0.2.2.2.2.1 _ mw_118) (C0.2.2.2.2.1 _ mw_119) (C0.2.2.2.2.1 _ mw_19) (C0.2.2.2.2.1 _ mw_120) (Nat.le_of_ble_eq_true rfl) (Nat.le_of_ble_eq_true rfl) (by show _ ≤ 1; omega) (by show _ ≤ c1; omega) d_B_makeRoom_28 ?_
      rw [show (if (nI k) < (nI (2 * cF)) then (nI (2 * cF)) else (nI k)) = nI (max k (2 * cF)) from max_nI (by omega) (by omega)]
      refine lv_istore_n (lv' := [(2, .int (nI (max k (2 * cF)))), (0, .ref x), (1, .int (nI k))]) hx hb d_B_makeRoom_31 rfl hl (by decide) rfl (fun ls hl => ?_)
      refine lv_aload_n hx hb d_B_makeRoom_32 rfl (lv_at hl 1 rfl) ?_
      refine lv_aload_n hx hb d_B_makeRoom_33 rfl (lv_at hl 1 rfl) ?_
      refine gf_B_16 C0 hH hB rfl d_B_makeRoom_34 ?_
      refine lv_iload_n hx hb d_B_makeRoom_37 rfl (lv_at hl 0 rfl) ?_
      refine lv_sipush (v := 4096) hx hb d_B_makeRoom_38 (by decide) ?_
      refine va_mmin hx hb (C0.2.2.1.trans hl.1.symm) C0.2.2.2.1 (C0.2.2.2.2.1 _ mw_121) (C0.2.2.2.2.1 _ mw_122) (C0.2.2.2.2.1 _ mw_19) (C0.2.2.2.2.1 _ mw_123) (Nat.le_of_ble_eq_true rfl) (Nat.le_of_ble_eq_true rfl) (by show _ ≤ 1; omega) (by show _ ≤ c1; omega) d_B_makeRoom_41 ?_
      rw [show (if 4096 < (nI (max k (2 * cF))) then 4096 else (nI (max k (2 * cF)))) = nI c1 from (show (if nI 4096 < nI (max k (2 * cF)) then nI 4096 else nI (max k (2 * cF))) = nI c1 by rw [hc]; exact min_nI (by omega) (by omega))]
      refine gn_q (runS C0 (k_R_copyOf l G w c1 hF (by omega) (by omega)) (cs_B_164 C0 ⟨Nat.le_of_ble_eq_true rfl, Nat.le_of_ble_eq_true rfl⟩) hH hS rfl hl.1 rfl (lv_room (Nat.le_of_ble_eq_true rfl)) d_B_makeRoom_44 ⟨by show _ ≤ 1; omega, by show _ ≤ c1; omega⟩) hS (fun r1 w1 H locs hp1 hH hS => ?_)
      obtain ⟨F1, rfl, hnF1, ew1⟩ := hp1
      have hw1_x : w1 x = some (.inr (2, [.ref L, .ref F, .int n, .ref Gd])) := by rw [ew1, va_up_ne _ _ (wnf hB hnF1)]; exact hB
      refine pf_B_16 C0 hH hS hw1_x rfl rfl (Nat.le_of_ble_eq_true rfl) d_B_makeRoom_47 (fun H locs hH hS => ?_)
      obtain ⟨w2, ew2⟩ : ∃ z : World, z = va_up w1 x (some (.inr (2, [.ref L, .ref F1, .int n, .ref Gd]))) := ⟨_, rfl⟩
      have hH : Hw G w2 H := by rw [ew2]; exact hH
      have hw2_x : w2 x = some (.inr (2, [.ref L, .ref F1, .int n, .ref Gd])) := by rw [ew2]; exact va_up_self _ _ _
      refine W.widen (k := 1) (n := c1) (by omega) (by omega) ?_
      exact W.vret hx hb hr (fun t ht hW => ⟨⟨w2, rfl, ⟨F1, hnF1, by rw [ew2, ew1]⟩, Wo.at C0.ev hH hS ht hW⟩, hS.F ht⟩) hS.2.2 d_B_makeRoom_50 (hlocks := C0.2.2.2.2.2.2)
