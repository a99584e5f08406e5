/-! the row ordered by distance -/
/-- i is behind all that are not farther than v -/
def Ub (d : Nat → Int64) (m : Nat) (v : Int64) (i : Nat) : Prop := i ≤ m ∧ (∀ j : Nat, j < i → d j ≤ v) ∧ ∀ j : Nat, i ≤ j → j < m → v < d j
theorem i64_nlt {a b : Int64} : ¬ a < b ↔ b ≤ a := Int64.not_lt
theorem Ub.uniq {d : Nat → Int64} {m : Nat} {v : Int64} {i j : Nat} (h1 : Ub d m v i) (h2 : Ub d m v j) : i = j := by
  obtain ⟨a1, a2, a3⟩ := h1
  obtain ⟨b1, b2, b3⟩ := h2
  rcases Nat.lt_trichotomy i j with h | h | h
  · exact absurd (a3 i (Nat.le_refl _) (by omega)) (i64_nlt.mpr (b2 i h))
  · exact h
  · exact absurd (b3 j (Nat.le_refl _) (by omega)) (i64_nlt.mpr (a2 j h))
def SrN (d : Nat → Int64) (m : Nat) : Prop := ∀ i j : Nat, i < j → j < m → d i ≤ d j
theorem i64_tr {a b c : Int64} (h1 : a ≤ b) (h2 : b ≤ c) : a ≤ c := Int64.le_iff_toInt_le.mpr (Int.le_trans (Int64.le_iff_toInt_le.mp h1) (Int64.le_iff_toInt_le.mp h2))
theorem i64_ltr {a b c : Int64} (h1 : a < b) (h2 : b ≤ c) : a < c := Int64.lt_iff_toInt_lt.mpr (Int.lt_of_lt_of_le (Int64.lt_iff_toInt_lt.mp h1) (Int64.le_iff_toInt_le.mp h2))

set_option maxHeartbeats 4000000 in
set_option maxRecDepth 100000 in
theorem k_B_indexBehind (l : Launch) (G : Gl) (w : World) {x L F Gd mN cG : Nat} {d : Nat → Int64} (hB : w x = some (.inr (2, [.ref L, .ref F, .int (nI mN), .ref Gd]))) (hGd : w Gd = some (.inl (G.2.1.2.1, cG, .inr (.inl d)))) (v : Int64) (i : Nat) (h1 : mN ≤ cG) (h2 : cG ≤ 4096) (hs : SrN d mN) (hi : Ub d mN v i) :
    PuM l y_B_indexBehind ws_B_indexBehind 1 G w [.ref x, .long v] (some (.int (nI i))) := by
  refine met_ent (by decide +kernel) (Nat.le_of_ble_eq_true rfl) (fun p e s m below meth c ls C0 hr hin hH hl => ?_)
  have hx := C0.1
  have hb := C0.2.1
  have hS : va_S (gA G) s.heap s.heap [] := va_S.rf
  have hA : ∀ q : Nat, s.heap.size ≤ q → gA G q := fun q h => Nat.le_trans C0.ev.2.2.2.2.2.2.2.2.2.2.2.2 h
  have hl : lv_has ls 6 [(0, .ref x), (1, .long v)] := hl
  refine lv_iconst (v := 0) hx hb d_B_indexBehind_0 (by decide) ?_
  refine lv_istore_n (lv' := [(3, .int 0), (0, .ref x), (1, .long v)]) hx hb d_B_indexBehind_1 rfl hl (by decide) rfl (fun ls hl => ?_)
  refine lv_aload_n hx hb d_B_indexBehind_2 rfl (lv_at hl 1 rfl) ?_
  refine gf_B_20 C0 hH hB rfl d_B_indexBehind_3 ?_
  refine lv_aload_n hx hb d_B_indexBehind_6 rfl (lv_at hl 1 rfl) ?_
  refine gf_B_24 C0 hH hB rfl d_B_indexBehind_7 ?_
  refine hd_alen hx hb C0.hK hH 1 hGd rfl (v := nI cG) rfl d_B_indexBehind_10 ?_
  refine va_mmin hx hb (C0.2.2.1.trans hl.1.symm) C0.2.2.2.1 (C0.2.2.2.2.1 _ mw_121) (C0.2.2.2.2.1 _ mw_122) (C0.2.2.2.2.1 _ mw_19) (C0.2.2.2.2.1 _ mw_123) (Nat.le_of_ble_eq_true rfl) (Nat.le_of_ble_eq_true rfl) (by show _ ≤ 0; omega) (by show _ ≤ 0; omega) d_B_indexBehind_11 ?_
  rw [show (if (nI cG) < (nI mN) then (nI cG) else (nI mN)) = nI mN from ((min_nI (by omega) (by omega)).trans (by rw [Nat.min_eq_left (by omega)]))]
  refine lv_istore (lv' := [(4, .int (nI mN)), (3, .int 0), (0, .ref x), (1, .long v)]) hx hb d_B_indexBehind_14 hl (by decide) rfl (fun ls hl => ?_)
  have loop : ∀ (u fr to : Nat), to < fr + u → fr ≤ to → to ≤ mN → (∀ j : Nat, j < fr → d j ≤ v) → (∀ j : Nat, to ≤ j → j < mN → v < d j) → ∀ ls : Array Slot, lv_has ls 6 [(0, .ref x), (1, .long v), (3, .int (nI fr)), (4, .int (nI to))] → W p l e (rmK 1 0 0) s m [.ref x, .long v].toArray below meth c s.heap [] 0 0 (MQ below (PuQ (some (.int (nI i)))) [.ref x, .long v].toArray s 0 0 (fun _ => False)) (F0 m 16 ls []) := by
    intro u
    induction u with
    | zero => intro fr to h1 h2; exact absurd h1 (by omega)
    | succ u ih =>
      intro fr to hu hft htl hlo hhi ls hl
      refine lv_iload_n hx hb d_B_indexBehind_16 rfl (lv_at hl 2 rfl) ?_
      refine lv_iload hx hb d_B_indexBehind_17 (lv_at hl 3 rfl) ?_
      refine lv_icmp_ge (tgt := 57) hx hb d_B_indexBehind_19 (by decide) (fun c_19 => ?_) (fun c_19 => ?_)
      · refine lv_iload_n hx hb d_B_indexBehind_57 rfl (lv_at hl 2 rfl) ?_
        exact W.iret hx hb hr (fun t ht _ => ⟨congrArg (fun z => Outcome.returned (some (Value.int z))) (congrArg nI (Ub.uniq ⟨Nat.le_trans hft htl, hlo, fun j h1 h3 => hhi j (Nat.le_trans (Nat.le_of_not_lt (fun h4 => absurd c_19 (Int32.not_le.mpr (nI_lt h4 (by omega))))) h1) h3⟩ hi)), ht⟩) (fun _ h => by cases h) d_B_indexBehind_58 (hlocks := C0.2.2.2.2.2.2)
      · have hlt : fr < to := Nat.not_le.mp (fun h => c_19 (nI_le h (by omega)))
        refine lv_iload_n hx hb d_B_indexBehind_22 rfl (lv_at hl 2 rfl) ?_
        refine lv_iload hx hb d_B_indexBehind_23 (lv_at hl 3 rfl) ?_
        refine lv_iadd hx hb d_B_indexBehind_25 ?_
        refine lv_iconst (v := 1) hx hb d_B_indexBehind_26 (by decide) ?_
        refine lv_iushr hx hb d_B_indexBehind_27 (mid_v (by omega)) ?_
        refine lv_istore (lv' := [(5, .int (nI ((fr + to) / 2))), (0, .ref x), (1, .long v), (3, .int (nI fr)), (4, .int (nI to))]) hx hb d_B_indexBehind_28 hl (by decide) rfl (fun ls hl => ?_)
        refine lv_aload_n hx hb d_B_indexBehind_30 rfl (lv_at hl 1 rfl) ?_
        refine gf_B_24 C0 hH hB rfl d_B_indexBehind_31 ?_
        refine lv_iload hx hb d_B_indexBehind_34 (lv_at hl 0 rfl) ?_
        refine hd_lald hx hb C0.hK hH 1 hGd rfl (vp_in_nI (by omega) (by omega)) d_B_indexBehind_36 ?_
        rw [nI_clamp (by omega)]
        refine lv_lload_n hx hb d_B_indexBehind_37 rfl (lv_at hl 2 rfl) ?_
        refine W.lcmp hx hb d_B_indexBehind_38 ?_
        refine lv_if_gt (tgt := 50) hx hb d_B_indexBehind_39 (by decide) (fun c_39 => ?_) (fun c_39 => ?_)
        · refine lv_iload hx hb d_B_indexBehind_50 (lv_at hl 0 rfl) ?_
          refine lv_istore (lv' := [(4, .int (nI ((fr + to) / 2))), (5, .int (nI ((fr + to) / 2))), (0, .ref x), (1, .long v), (3, .int (nI fr))]) hx hb d_B_indexBehind_52 hl (by decide) rfl (fun ls hl => ?_)
          refine lv_goto (tgt := 16) hx hb d_B_indexBehind_54 (by decide) ?_
          refine ih fr ((fr + to) / 2) (by omega) (by omega) (by omega) hlo (fun j h2 h4 => ?_) ls (lv_sub hl [2, 3, 4, 0] rfl)
          have hm := (lg_cmp_gt _ _).mp c_39
          rcases Nat.lt_or_eq_of_le h2 with h3 | h3
          · exact i64_ltr hm (hs _ j h3 h4)
          · subst h3; exact hm
        · refine lv_iload hx hb d_B_indexBehind_42 (lv_at hl 0 rfl) ?_
          refine lv_iconst (v := 1) hx hb d_B_indexBehind_44 (by decide) ?_
          refine lv_iadd hx hb d_B_indexBehind_45 ?_
          rw [show ((nI ((fr + to) / 2)) + 1) = nI ((fr + to) / 2 + 1) from nI_1 _]
          refine lv_istore_n (lv' := [(3, .int (nI ((fr + to) / 2 + 1))), (5, .int (nI ((fr + to) / 2))), (0, .ref x), (1, .long v), (4, .int (nI to))]) hx hb d_B_indexBehind_46 rfl hl (by decide) rfl (fun ls hl => ?_)
          refine lv_goto (tgt := 54) hx hb d_B_indexBehind_47 (by decide) ?_
          refine lv_goto (tgt := 16) hx hb d_B_indexBehind_54 (by decide) ?_
          refine ih ((fr + to) / 2 + 1) to (by omega) (by omega) htl (fun j h2 => ?_) hhi ls (lv_sub hl [2, 3, 0, 4] rfl)
          have hm := i64_nlt.mp (fun q => c_39 ((lg_cmp_gt _ _).mpr q))
          rcases Nat.lt_or_eq_of_le (Nat.le_of_lt_succ h2) with h3 | h3
          · exact i64_tr (hs j _ h3 (by omega)) hm
          · subst h3; exact hm
  exact loop (mN + 1) 0 mN (by omega) (Nat.zero_le _) (Nat.le_refl _) (fun j h => absurd h (Nat.not_lt_zero _)) (fun j h h2 => absurd h2 (by omega)) ls (lv_sub hl [2, 3, 1, 0] rfl)

/-- (n, v) came to the place i of the row -/
def InsQ (G : Gl) (w w1 : World) (x L F Gd t cF cG i : Nat) (n : Int32) (v : Int64) (g : Nat → Int32) (d : Nat → Int64) : Prop := ∃ (g1 : Nat → Int32) (d1 : Nat → Int64), w1 x = some (.inr (2, [.ref L, .ref F, .int (nI (t + 1)), .ref Gd])) ∧ w1 F = some (.inl (G.2.1.1, cF, .inl g1)) ∧ w1 Gd = some (.inl (G.2.1.2.1, cG, .inr (.inl d1))) ∧ (∀ j : Nat, j < i → g1 j = g j ∧ d1 j = d j) ∧ g1 i = n ∧ d1 i = v ∧ (∀ j : Nat, i ≤ j → j < t → g1 (j + 1) = g j ∧ d1 (j + 1) = d j) ∧ Kp w w1 [x, F, Gd]
theorem ins_g {g : Nat → Int32} {i t : Nat} (n : Int32) (hi : i ≤ t) : (∀ j : Nat, j < i → upd (va_cpy g g i (i + 1) (t - i)) i n j = g j) ∧ upd (va_cpy g g i (i + 1) (t - i)) i n i = n ∧ ∀ j : Nat, i ≤ j → j < t → upd (va_cpy g g i (i + 1) (t - i)) i n (j + 1) = g j := by
  refine ⟨fun j hj => ?_, by simp [upd], fun j h1 h2 => ?_⟩
  · rw [upd, if_neg (by omega), pk_cpy_out (by omega)]
  · rw [upd, if_neg (by omega), pk_cpy_in (by omega) (by omega), show i + (j + 1 - (i + 1)) = j by omega]
theorem ins_d {d : Nat → Int64} {i t : Nat} (v : Int64) (hi : i ≤ t) : (∀ j : Nat, j < i → vp_updL (va_cpy d d i (i + 1) (t - i)) i v j = d j) ∧ vp_updL (va_cpy d d i (i + 1) (t - i)) i v i = v ∧ ∀ j : Nat, i ≤ j → j < t → vp_updL (va_cpy d d i (i + 1) (t - i)) i v (j + 1) = d j := by
  refine ⟨fun j hj => ?_, by simp [vp_updL], fun j h1 h2 => ?_⟩
  · rw [vp_updL, if_neg (by omega), pk_cpy_out (by omega)]
  · rw [vp_updL, if_neg (by omega), pk_cpy_in (by omega) (by omega), show i + (j + 1 - (i + 1)) = j by omega]

set_option maxHeartbeats 4000000 in
set_option maxRecDepth 100000 in
theorem k_B_insD1 (l : Launch) (G : Gl) (w : World) {x L F Gd mN cF cG : Nat} {g : Nat → Int32} {d : Nat → Int64} (hB : w x = some (.inr (2, [.ref L, .ref F, .int (nI mN), .ref Gd]))) (hF : w F = some (.inl (G.2.1.1, cF, .inl g))) (hGd : w Gd = some (.inl (G.2.1.2.1, cG, .inr (.inl d)))) (n : Int32) (v : Int64) (kk i : Nat) (h1 : mN ≤ cG) (h2 : cG ≤ 4096) (h3 : kk ≤ cF) (h4 : cF ≤ 4096) (h5 : kk ≤ cG) (h6 : mN ≤ kk) (hs : SrN d mN) (hi : Ub d mN v i) (hik : i < kk) :
    GnV l y_B_insertByDistance ws_B_insertByDistance 2 0 0 G w [.ref x, .int n, .long v, .int (nI kk)] (fun w1 => InsQ G w w1 x L F Gd (min mN (kk - 1)) cF cG i n v g d) := by
  refine met_ent (by decide +kernel) (Nat.le_of_ble_eq_true rfl) (fun p e s m below meth c ls C0 hr hin hH hl => ?_)
  have hx := C0.1
  have hb := C0.2.1
  have hS : va_S (gA G) s.heap s.heap [] := va_S.rf
  have hA : ∀ q : Nat, s.heap.size ≤ q → gA G q := fun q h => Nat.le_trans C0.ev.2.2.2.2.2.2.2.2.2.2.2.2 h
  have hl : lv_has ls 7 [(0, .ref x), (1, .int n), (2, .long v), (4, .int (nI kk))] := hl
  obtain ⟨t, ht⟩ : ∃ z : Nat, z = min mN (kk - 1) := ⟨_, rfl⟩
  have him := hi.1
  have hit : i ≤ t := by omega
  rw [← ht]
  refine lv_aload_n hx hb d_B_insertByDistance_0 rfl (lv_at hl 0 rfl) ?_
  refine lv_lload_n hx hb d_B_insertByDistance_1 rfl (lv_at hl 2 rfl) ?_
  refine pu_v (runV C0 (k_B_indexBehind l G w hB hGd v i h1 h2 hs hi) (cs_B_170 C0 ⟨Nat.le_of_ble_eq_true rfl, Nat.le_of_ble_eq_true rfl⟩) hH hS (hd_recv C0.hK hH rfl hB) rfl hl.1 rfl (lv_room (Nat.le_of_ble_eq_true rfl)) d_B_insertByDistance_2 ⟨by show _ ≤ 0; omega, by show _ ≤ 0; omega⟩) ?_
  refine lv_istore (lv' := [(5, .int (nI i)), (0, .ref x), (1, .int n), (2, .long v), (4, .int (nI kk))]) hx hb d_B_insertByDistance_5 hl (by decide) rfl (fun ls hl => ?_)
  refine lv_iload hx hb d_B_insertByDistance_7 (lv_at hl 0 rfl) ?_
  refine lv_iload hx hb d_B_insertByDistance_9 (lv_at hl 4 rfl) ?_
  refine lv_icmp_ge (tgt := 34) hx hb d_B_insertByDistance_11 (by decide) (fun c_11 => ?_) (fun c_11 => ?_)
  · exact absurd c_11 (Int32.not_le.mpr (nI_lt hik (by omega)))
  · refine lv_iload hx hb d_B_insertByDistance_14 (lv_at hl 4 rfl) ?_
    refine lv_aload_n hx hb d_B_insertByDistance_16 rfl (lv_at hl 1 rfl) ?_
    refine gf_B_16 C0 hH hB rfl d_B_insertByDistance_17 ?_
    refine hd_alen hx hb C0.hK hH 0 hF rfl (v := nI cF) rfl d_B_insertByDistance_20 ?_
    refine lv_icmp_gt (tgt := 34) hx hb d_B_insertByDistance_21 (by decide) (fun c_21 => ?_) (fun c_21 => ?_)
    · exact absurd (nI_le h3 (by omega)) (Int32.not_le.mpr c_21)
    · refine lv_iload hx hb d_B_insertByDistance_24 (lv_at hl 4 rfl) ?_
      refine lv_aload_n hx hb d_B_insertByDistance_26 rfl (lv_at hl 1 rfl) ?_
      refine gf_B_24 C0 hH hB rfl d_B_insertByDistance_27 ?_
      refine hd_alen hx hb C0.hK hH 1 hGd rfl (v := nI cG) rfl d_B_insertByDistance_30 ?_
      refine lv_icmp_le (tgt := 35) hx hb d_B_insertByDistance_31 (by decide) (fun c_31 => ?_) (fun c_31 => ?_)
      · refine lv_aload_n hx hb d_B_insertByDistance_35 rfl (lv_at hl 1 rfl) ?_
        refine gf_B_20 C0 hH hB rfl d_B_insertByDistance_36 ?_
        refine lv_iload hx hb d_B_insertByDistance_39 (lv_at hl 4 rfl) ?_
        refine lv_iconst (v := 1) hx hb d_B_insertByDistance_41 (by decide) ?_
        refine lv_isub hx hb d_B_insertByDistance_42 ?_
        rw [show ((nI kk) - 1) = nI (kk - 1) from pk_sub (show 1 ≤ kk by omega)]
        refine va_mmin hx hb (C0.2.2.1.trans hl.1.symm) C0.2.2.2.1 (C0.2.2.2.2.1 _ mw_121) (C0.2.2.2.2.1 _ mw_122) (C0.2.2.2.2.1 _ mw_19) (C0.2.2.2.2.1 _ mw_123) (Nat.le_of_ble_eq_true rfl) (Nat.le_of_ble_eq_true rfl) (by show _ ≤ 0; omega) (by show _ ≤ 0; omega) d_B_insertByDistance_43 ?_
        rw [show (if (nI (kk - 1)) < (nI mN) then (nI (kk - 1)) else (nI mN)) = nI t from ((min_nI (by omega) (by omega)).trans (by rw [ht]))]
        refine lv_istore (lv' := [(6, .int (nI t)), (5, .int (nI i)), (0, .ref x), (1, .int n), (2, .long v), (4, .int (nI kk))]) hx hb d_B_insertByDistance_46 hl (by decide) rfl (fun ls hl => ?_)
        refine lv_aload_n hx hb d_B_insertByDistance_48 rfl (lv_at hl 2 rfl) ?_
        refine gf_B_16 C0 hH hB rfl d_B_insertByDistance_49 ?_
        refine lv_iload hx hb d_B_insertByDistance_52 (lv_at hl 1 rfl) ?_
        refine lv_aload_n hx hb d_B_insertByDistance_54 rfl (lv_at hl 2 rfl) ?_
        refine gf_B_16 C0 hH hB rfl d_B_insertByDistance_55 ?_
        refine lv_iload hx hb d_B_insertByDistance_58 (lv_at hl 1 rfl) ?_
        refine lv_iconst (v := 1) hx hb d_B_insertByDistance_60 (by decide) ?_
        refine lv_iadd hx hb d_B_insertByDistance_61 ?_
        rw [show ((nI i) + 1) = nI (i + 1) from nI_1 i]
        refine lv_iload hx hb d_B_insertByDistance_62 (lv_at hl 0 rfl) ?_
        refine lv_iload hx hb d_B_insertByDistance_64 (lv_at hl 1 rfl) ?_
        refine lv_isub hx hb d_B_insertByDistance_66 ?_
        rw [show ((nI t) - (nI i)) = nI (t - i) from pk_sub (by omega)]
        refine hd_copyi hx hb (C0.2.2.1.trans hl.1.symm) C0.2.2.2.1 (C0.2.2.2.2.1 _ mw_621) (C0.2.2.2.2.1 _ mw_137) (C0.2.2.2.2.1 _ mw_136) (C0.2.2.2.2.1 _ mw_21) C0.hK hH hS 0 hF hF rfl (nI_pos (by omega)) (nI_pos (by omega)) (nI_pos (by omega)) (by rw [nI_clamp (by omega), nI_clamp (by omega)]; omega) (by rw [nI_clamp (by omega), nI_clamp (by omega)]; omega) (Nat.le_of_ble_eq_true rfl) (Nat.le_of_ble_eq_true rfl) d_B_insertByDistance_67 (fun H locs hH hS => ?_)
        rw [nI_clamp (by omega), nI_clamp (by omega), nI_clamp (by omega)] at hH
        obtain ⟨w1, ew1⟩ : ∃ z : World, z = va_up w F (some (.inl (G.2.1.1, cF, .inl (va_cpy g g i (i + 1) (t - i))))) := ⟨_, rfl⟩
        have hH : Hw G w1 H := by rw [ew1]; exact hH
        have hw1_x : w1 x = some (.inr (2, [.ref L, .ref F, .int (nI mN), .ref Gd])) := by rw [ew1, va_up_ne _ _ (wne hB hF (by simp))]; exact hB
        have hw1_Gd : w1 Gd = some (.inl (G.2.1.2.1, cG, .inr (.inl d))) := by rw [ew1, va_up_ne _ _ (wne hGd hF (by simp))]; exact hGd
        have hw1_F : w1 F = some (.inl (G.2.1.1, cF, .inl (va_cpy g g i (i + 1) (t - i)))) := by rw [ew1]; exact va_up_self _ _ _
        refine lv_aload_n hx hb d_B_insertByDistance_70 rfl (lv_at hl 2 rfl) ?_
        refine gf_B_24 C0 hH hw1_x rfl d_B_insertByDistance_71 ?_
        refine lv_iload hx hb d_B_insertByDistance_74 (lv_at hl 1 rfl) ?_
        refine lv_aload_n hx hb d_B_insertByDistance_76 rfl (lv_at hl 2 rfl) ?_
        refine gf_B_24 C0 hH hw1_x rfl d_B_insertByDistance_77 ?_
        refine lv_iload hx hb d_B_insertByDistance_80 (lv_at hl 1 rfl) ?_
        refine lv_iconst (v := 1) hx hb d_B_insertByDistance_82 (by decide) ?_
        refine lv_iadd hx hb d_B_insertByDistance_83 ?_
        rw [show ((nI i) + 1) = nI (i + 1) from nI_1 i]
        refine lv_iload hx hb d_B_insertByDistance_84 (lv_at hl 0 rfl) ?_
        refine lv_iload hx hb d_B_insertByDistance_86 (lv_at hl 1 rfl) ?_
        refine lv_isub hx hb d_B_insertByDistance_88 ?_
        rw [show ((nI t) - (nI i)) = nI (t - i) from pk_sub (by omega)]
        refine hd_copyl hx hb (C0.2.2.1.trans hl.1.symm) C0.2.2.2.1 (C0.2.2.2.2.1 _ mw_621) (C0.2.2.2.2.1 _ mw_137) (C0.2.2.2.2.1 _ mw_136) (C0.2.2.2.2.1 _ mw_21) C0.hK hH hS 1 hw1_Gd hw1_Gd rfl (nI_pos (by omega)) (nI_pos (by omega)) (nI_pos (by omega)) (by rw [nI_clamp (by omega), nI_clamp (by omega)]; omega) (by rw [nI_clamp (by omega), nI_clamp (by omega)]; omega) (Nat.le_of_ble_eq_true rfl) (Nat.le_of_ble_eq_true rfl) d_B_insertByDistance_89 (fun H locs hH hS => ?_)
        rw [nI_clamp (by omega), nI_clamp (by omega), nI_clamp (by omega)] at hH
        obtain ⟨w2, ew2⟩ : ∃ z : World, z = va_up w1 Gd (some (.inl (G.2.1.2.1, cG, .inr (.inl (va_cpy d d i (i + 1) (t - i)))))) := ⟨_, rfl⟩
        have hH : Hw G w2 H := by rw [ew2]; exact hH
        have hw2_x : w2 x = some (.inr (2, [.ref L, .ref F, .int (nI mN), .ref Gd])) := by rw [ew2, va_up_ne _ _ (wne hw1_x hw1_Gd (by simp))]; exact hw1_x
        have hw2_F : w2 F = some (.inl (G.2.1.1, cF, .inl (va_cpy g g i (i + 1) (t - i)))) := by rw [ew2, va_up_ne _ _ (wne hw1_F hw1_Gd (by simp))]; exact hw1_F
        have hw2_Gd : w2 Gd = some (.inl (G.2.1.2.1, cG, .inr (.inl (va_cpy d d i (i + 1) (t - i))))) := by rw [ew2]; exact va_up_self _ _ _
        refine lv_aload_n hx hb d_B_insertByDistance_92 rfl (lv_at hl 2 rfl) ?_
        refine gf_B_16 C0 hH hw2_x rfl d_B_insertByDistance_93 ?_
        refine lv_iload hx hb d_B_insertByDistance_96 (lv_at hl 1 rfl) ?_
        refine lv_iload_n hx hb d_B_insertByDistance_98 rfl (lv_at hl 3 rfl) ?_
        refine hd_iast hx hb C0.hK hH hS 0 hw2_F rfl (vp_in_nI (by omega) (by omega)) d_B_insertByDistance_99 (fun H locs hH hS => ?_)
        rw [nI_clamp (by omega)] at hH
        obtain ⟨w3, ew3⟩ : ∃ z : World, z = va_up w2 F (some (.inl (G.2.1.1, cF, .inl (upd (va_cpy g g i (i + 1) (t - i)) i n)))) := ⟨_, rfl⟩
        have hH : Hw G w3 H := by rw [ew3]; exact hH
        have hw3_x : w3 x = some (.inr (2, [.ref L, .ref F, .int (nI mN), .ref Gd])) := by rw [ew3, va_up_ne _ _ (wne hw2_x hw2_F (by simp))]; exact hw2_x
        have hw3_Gd : w3 Gd = some (.inl (G.2.1.2.1, cG, .inr (.inl (va_cpy d d i (i + 1) (t - i))))) := by rw [ew3, va_up_ne _ _ (wne hw2_Gd hw2_F (by simp))]; exact hw2_Gd
        have hw3_F : w3 F = some (.inl (G.2.1.1, cF, .inl (upd (va_cpy g g i (i + 1) (t - i)) i n))) := by rw [ew3]; exact va_up_self _ _ _
        refine lv_aload_n hx hb d_B_insertByDistance_100 rfl (lv_at hl 2 rfl) ?_
        refine gf_B_24 C0 hH hw3_x rfl d_B_insertByDistance_101 ?_
        refine lv_iload hx hb d_B_insertByDistance_104 (lv_at hl 1 rfl) ?_
        refine lv_lload_n hx hb d_B_insertByDistance_106 rfl (lv_at hl 4 rfl) ?_
        refine hd_last hx hb C0.hK hH hS 1 hw3_Gd rfl (vp_in_nI (by omega) (by omega)) d_B_insertByDistance_107 (fun H locs hH hS => ?_)
        rw [nI_clamp (by omega)] at hH
        obtain ⟨w4, ew4⟩ : ∃ z : World, z = va_up w3 Gd (some (.inl (G.2.1.2.1, cG, .inr (.inl (vp_updL (va_cpy d d i (i + 1) (t - i)) i v))))) := ⟨_, rfl⟩
        have hH : Hw G w4 H := by rw [ew4]; exact hH
        have hw4_x : w4 x = some (.inr (2, [.ref L, .ref F, .int (nI mN), .ref Gd])) := by rw [ew4, va_up_ne _ _ (wne hw3_x hw3_Gd (by simp))]; exact hw3_x
        have hw4_F : w4 F = some (.inl (G.2.1.1, cF, .inl (upd (va_cpy g g i (i + 1) (t - i)) i n))) := by rw [ew4, va_up_ne _ _ (wne hw3_F hw3_Gd (by simp))]; exact hw3_F
        have hw4_Gd : w4 Gd = some (.inl (G.2.1.2.1, cG, .inr (.inl (vp_updL (va_cpy d d i (i + 1) (t - i)) i v)))) := by rw [ew4]; exact va_up_self _ _ _
        refine lv_aload_n hx hb d_B_insertByDistance_108 rfl (lv_at hl 2 rfl) ?_
        refine lv_iload hx hb d_B_insertByDistance_109 (lv_at hl 0 rfl) ?_
        refine lv_iconst (v := 1) hx hb d_B_insertByDistance_111 (by decide) ?_
        refine lv_iadd hx hb d_B_insertByDistance_112 ?_
        rw [show ((nI t) + 1) = nI (t + 1) from nI_1 t]
        refine pf_B_20 C0 hH hS hw4_x rfl rfl (Nat.le_of_ble_eq_true rfl) d_B_insertByDistance_113 (fun H locs hH hS => ?_)
        obtain ⟨w5, ew5⟩ : ∃ z : World, z = va_up w4 x (some (.inr (2, [.ref L, .ref F, .int (nI (t + 1)), .ref Gd]))) := ⟨_, rfl⟩
        have hH : Hw G w5 H := by rw [ew5]; exact hH
        have hw5_F : w5 F = some (.inl (G.2.1.1, cF, .inl (upd (va_cpy g g i (i + 1) (t - i)) i n))) := by rw [ew5, va_up_ne _ _ (wne hw4_F hw4_x (by simp))]; exact hw4_F
        have hw5_Gd : w5 Gd = some (.inl (G.2.1.2.1, cG, .inr (.inl (vp_updL (va_cpy d d i (i + 1) (t - i)) i v)))) := by rw [ew5, va_up_ne _ _ (wne hw4_Gd hw4_x (by simp))]; exact hw4_Gd
        have hw5_x : w5 x = some (.inr (2, [.ref L, .ref F, .int (nI (t + 1)), .ref Gd])) := by rw [ew5]; exact va_up_self _ _ _
        refine W.widen (k := 0) (n := 0) (by omega) (by omega) ?_
        exact W.vret hx hb hr (fun t ht hW => ⟨⟨w5, rfl, (by obtain ⟨a1, a2, a3⟩ := ins_g (g := g) n hit; obtain ⟨b1, b2, b3⟩ := ins_d (d := d) v hit; exact ⟨_, _, hw5_x, hw5_F, hw5_Gd, fun j hj => ⟨a1 j hj, b1 j hj⟩, a2, b2, fun j h1 h2 => ⟨a3 j h1 h2, b3 j h1 h2⟩, by rw [ew5, ew4, ew3, ew2, ew1]; exact ((((Kp.up (Or.inl (by simp))).ups (Or.inl (by simp))).ups (Or.inl (by simp))).ups (Or.inl (by simp))).ups (Or.inl (by simp))⟩), Wo.at C0.ev hH hS ht hW⟩, hS.F ht⟩) hS.2.2 d_B_insertByDistance_116 (hlocks := C0.2.2.2.2.2.2)
      · exact absurd (nI_le h5 (by omega)) c_31

set_option maxHeartbeats 4000000 in
set_option maxRecDepth 100000 in
theorem k_B_insD0 (l : Launch) (G : Gl) (w : World) {x L F Gd mN cF cG : Nat} {g : Nat → Int32} {d : Nat → Int64} (hB : w x = some (.inr (2, [.ref L, .ref F, .int (nI mN), .ref Gd]))) (hF : w F = some (.inl (G.2.1.1, cF, .inl g))) (hGd : w Gd = some (.inl (G.2.1.2.1, cG, .inr (.inl d)))) (n : Int32) (v : Int64) (kk i : Nat) (h1 : mN ≤ cG) (h2 : cG ≤ 4096) (h3 : kk ≤ cF) (h4 : cF ≤ 4096) (h5 : kk ≤ cG) (h6 : mN ≤ kk) (hs : SrN d mN) (hi : Ub d mN v i) (hik : kk ≤ i) :
    PuM l y_B_insertByDistance ws_B_insertByDistance 2 G w [.ref x, .int n, .long v, .int (nI kk)] none := by
  refine met_ent (by decide +kernel) (Nat.le_of_ble_eq_true rfl) (fun p e s m below meth c ls C0 hr hin hH hl => ?_)
  have hx := C0.1
  have hb := C0.2.1
  have hS : va_S (gA G) s.heap s.heap [] := va_S.rf
  have hA : ∀ q : Nat, s.heap.size ≤ q → gA G q := fun q h => Nat.le_trans C0.ev.2.2.2.2.2.2.2.2.2.2.2.2 h
  have hl : lv_has ls 7 [(0, .ref x), (1, .int n), (2, .long v), (4, .int (nI kk))] := hl
  refine lv_aload_n hx hb d_B_insertByDistance_0 rfl (lv_at hl 0 rfl) ?_
  refine lv_lload_n hx hb d_B_insertByDistance_1 rfl (lv_at hl 2 rfl) ?_
  refine pu_v (runV C0 (k_B_indexBehind l G w hB hGd v i h1 h2 hs hi) (cs_B_170 C0 ⟨Nat.le_of_ble_eq_true rfl, Nat.le_of_ble_eq_true rfl⟩) hH hS (hd_recv C0.hK hH rfl hB) rfl hl.1 rfl (lv_room (Nat.le_of_ble_eq_true rfl)) d_B_insertByDistance_2 ⟨by show _ ≤ 0; omega, by show _ ≤ 0; omega⟩) ?_
  refine lv_istore (lv' := [(5, .int (nI i)), (0, .ref x), (1, .int n), (2, .long v), (4, .int (nI kk))]) hx hb d_B_insertByDistance_5 hl (by decide) rfl (fun ls hl => ?_)
  refine lv_iload hx hb d_B_insertByDistance_7 (lv_at hl 0 rfl) ?_
  refine lv_iload hx hb d_B_insertByDistance_9 (lv_at hl 4 rfl) ?_
  refine lv_icmp_ge (tgt := 34) hx hb d_B_insertByDistance_11 (by decide) (fun c_11 => ?_) (fun c_11 => ?_)
  · exact W.vret hx hb hr (fun t ht _ => ⟨rfl, ht⟩) (fun _ h => by cases h) d_B_insertByDistance_34 (hlocks := C0.2.2.2.2.2.2)
  · exact absurd (nI_le hik (by have := hi.1; omega)) c_11
