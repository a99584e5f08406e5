/-! append, the row of distances -/
/-- what was there is there as it was, but at the addresses S -/
def Kp (w w1 : World) (S : List Nat) : Prop := ∀ (b : Nat) (e : va_E), w b = some e → b ∉ S → w1 b = some e
theorem Kp.rf {w : World} {S : List Nat} : Kp w w S := fun _ _ h _ => h
theorem Kp.trans {w w1 w2 : World} {S S1 : List Nat} (h1 : Kp w w1 S) (h2 : Kp w1 w2 S1) (h : ∀ b ∈ S1, b ∈ S ∨ w b = none) : Kp w w2 S := fun b e hb hn => h2 b e (h1 b e hb hn) (fun hm => (h b hm).elim hn (fun q => by rw [hb] at q; cases q))
theorem Kp.up {w : World} {a : Nat} {e : va_E} {S : List Nat} (h : a ∈ S ∨ w a = none) : Kp w (va_up w a (some e)) S := fun b f hb hn => by
  have : b ≠ a := fun q => by
    subst q
    rcases h with h | h
    · exact hn h
    · rw [hb] at h; cases h
  rw [va_up_ne _ _ this]; exact hb
theorem Kp.mono {w w1 : World} {S S1 : List Nat} (h : Kp w w1 S) (hs : ∀ b ∈ S, b ∈ S1 ∨ w b = none) : Kp w w1 S1 := fun b e hb hn => h b e hb (fun hm => (hs b hm).elim hn (fun q => by rw [hb] at q; cases q))
/-- the row after append -/
def AppQ (G : Gl) (w w1 : World) (x L F Gd nF c1 : Nat) (v : Int32) (g : Nat → Int32) : Prop := ∃ (F1 : Nat) (g1 : Nat → Int32), (F1 = F ∨ w F1 = none) ∧ w1 F1 = some (.inl (G.2.1.1, c1, .inl g1)) ∧ (∀ i : Nat, i < nF → g1 i = g i) ∧ g1 nF = v ∧ w1 x = some (.inr (2, [.ref L, .ref F1, .int (nI (nF + 1)), .ref Gd])) ∧ Kp w w1 [x, F]

set_option maxHeartbeats 4000000 in
set_option maxRecDepth 100000 in
theorem k_B_append0 (l : Launch) (G : Gl) (w : World) {x L F Gd cF nF : Nat} {g : Nat → Int32} (hB : w x = some (.inr (2, [.ref L, .ref F, .int (nI nF), .ref Gd]))) (hF : w F = some (.inl (G.2.1.1, cF, .inl g))) (v : Int32) (h1 : nF < cF) (h2 : cF ≤ 4096) :
    GnV l y_B_append ws_B_append 3 0 0 G w [.ref x, .int v] (fun w1 => AppQ G w w1 x L F Gd nF cF v g) := by
  refine met_ent (by decide +kernel) (Nat.le_of_ble_eq_true rfl) (fun p e s m below meth c ls C0 hr hin hH hl => ?_)
  have hx := C0.1
  have hb := C0.2.1
  have hS : va_S (gA G) s.heap s.heap [] := va_S.rf
  have hA : ∀ q : Nat, s.heap.size ≤ q → gA G q := fun q h => Nat.le_trans C0.ev.2.2.2.2.2.2.2.2.2.2.2.2 h
  have hl : lv_has ls 2 [(0, .ref x), (1, .int v)] := hl
  refine lv_aload_n hx hb d_B_append_0 rfl (lv_at hl 0 rfl) ?_
  refine lv_aload_n hx hb d_B_append_1 rfl (lv_at hl 0 rfl) ?_
  refine gf_B_20 C0 hH hB rfl d_B_append_2 ?_
  refine lv_iconst (v := 1) hx hb d_B_append_5 (by decide) ?_
  refine lv_iadd hx hb d_B_append_6 ?_
  rw [show ((nI nF) + 1) = nI (nF + 1) from nI_1 nF]
  refine pu_n (runV C0 (k_B_makeRoom0 l G w hB hF (nF + 1) (Or.inl (by omega)) (by omega) h2) (cs_B_100 C0 ⟨Nat.le_of_ble_eq_true rfl, Nat.le_of_ble_eq_true rfl⟩) hH hS (hd_recv C0.hK hH rfl hB) rfl hl.1 rfl (lv_room (Nat.le_of_ble_eq_true rfl)) d_B_append_7 ⟨by show _ ≤ 0; omega, by show _ ≤ 0; omega⟩) ?_
  refine lv_aload_n hx hb d_B_append_10 rfl (lv_at hl 0 rfl) ?_
  refine gf_B_20 C0 hH hB rfl d_B_append_11 ?_
  refine lv_aload_n hx hb d_B_append_14 rfl (lv_at hl 0 rfl) ?_
  refine gf_B_16 C0 hH hB rfl d_B_append_15 ?_
  refine hd_alen hx hb C0.hK hH 0 hF rfl (v := nI cF) rfl d_B_append_18 ?_
  refine lv_icmp_ge (tgt := 42) hx hb d_B_append_19 (by decide) (fun c_19 => ?_) (fun c_19 => ?_)
  · exact absurd c_19 (Int32.not_le.mpr (nI_lt h1 (by omega)))
  · refine lv_aload_n hx hb d_B_append_22 rfl (lv_at hl 0 rfl) ?_
    refine gf_B_16 C0 hH hB rfl d_B_append_23 ?_
    refine lv_aload_n hx hb d_B_append_26 rfl (lv_at hl 0 rfl) ?_
    refine gf_B_20 C0 hH hB rfl d_B_append_27 ?_
    refine lv_iload_n hx hb d_B_append_30 rfl (lv_at hl 1 rfl) ?_
    refine hd_iast hx hb C0.hK hH hS 0 hF rfl (vp_in_nI (by omega) (by omega)) d_B_append_31 (fun H locs hH hS => ?_)
    rw [nI_clamp (by omega)] at hH
    obtain ⟨w1, ew1⟩ : ∃ z : World, z = va_up w F (some (.inl (G.2.1.1, cF, .inl (upd g nF v)))) := ⟨_, rfl⟩
    have hH : Hw G w1 H := by rw [ew1]; exact hH
    have hw1_x : w1 x = some (.inr (2, [.ref L, .ref F, .int (nI nF), .ref Gd])) := by rw [ew1, va_up_ne _ _ (wne hB hF (by simp))]; exact hB
    have hw1_F : w1 F = some (.inl (G.2.1.1, cF, .inl (upd g nF v))) := by rw [ew1]; exact va_up_self _ _ _
    refine lv_aload_n hx hb d_B_append_32 rfl (lv_at hl 0 rfl) ?_
    refine lv_dup hx hb d_B_append_33 rfl ?_
    refine gf_B_20 C0 hH hw1_x rfl d_B_append_34 ?_
    refine lv_iconst (v := 1) hx hb d_B_append_37 (by decide) ?_
    refine lv_iadd hx hb d_B_append_38 ?_
    rw [show ((nI nF) + 1) = nI (nF + 1) from nI_1 nF]
    refine pf_B_20 C0 hH hS hw1_x rfl rfl (Nat.le_of_ble_eq_true rfl) d_B_append_39 (fun H locs hH hS => ?_)
    obtain ⟨w2, ew2⟩ : ∃ z : World, z = va_up w1 x (some (.inr (2, [.ref L, .ref F, .int (nI (nF + 1)), .ref Gd]))) := ⟨_, rfl⟩
    have hH : Hw G w2 H := by rw [ew2]; exact hH
    have hw2_F : w2 F = some (.inl (G.2.1.1, cF, .inl (upd g nF v))) := by rw [ew2, va_up_ne _ _ (wne hw1_F hw1_x (by simp))]; exact hw1_F
    have hw2_x : w2 x = some (.inr (2, [.ref L, .ref F, .int (nI (nF + 1)), .ref Gd])) := by rw [ew2]; exact va_up_self _ _ _
    refine W.widen (k := 0) (n := 0) (by omega) (by omega) ?_
    exact W.vret hx hb hr (fun t ht hW => ⟨⟨w2, rfl, ⟨F, _, Or.inl rfl, hw2_F, fun i hi => by simp [upd, Nat.ne_of_lt hi], by simp [upd], hw2_x, by rw [ew2, ew1]; exact (Kp.up (Or.inl (by simp))).trans (Kp.up (Or.inl (List.mem_cons_self ..))) (by intro b hb; exact Or.inl hb)⟩, Wo.at C0.ev hH hS ht hW⟩, hS.F ht⟩) hS.2.2 d_B_append_42 (hlocks := C0.2.2.2.2.2.2)

set_option maxHeartbeats 4000000 in
set_option maxRecDepth 100000 in
theorem k_B_append1 (l : Launch) (G : Gl) (w : World) {x L F Gd cF nF : Nat} {g : Nat → Int32} (hB : w x = some (.inr (2, [.ref L, .ref F, .int (nI nF), .ref Gd]))) (hF : w F = some (.inl (G.2.1.1, cF, .inl g))) (v : Int32) (c1 : Nat) (h1 : nF = cF) (h0 : 0 < cF) (h2 : cF < 4096) (hc : c1 = min (2 * cF) 4096) :
    GnV l y_B_append ws_B_append 3 1 c1 G w [.ref x, .int v] (fun w1 => AppQ G w w1 x L F Gd nF c1 v g) := by
  refine met_ent (by decide +kernel) (Nat.le_of_ble_eq_true rfl) (fun p e s m below meth c ls C0 hr hin hH hl => ?_)
  have hx := C0.1
  have hb := C0.2.1
  have hS : va_S (gA G) s.heap s.heap [] := va_S.rf
  have hA : ∀ q : Nat, s.heap.size ≤ q → gA G q := fun q h => Nat.le_trans C0.ev.2.2.2.2.2.2.2.2.2.2.2.2 h
  have hl : lv_has ls 2 [(0, .ref x), (1, .int v)] := hl
  refine lv_aload_n hx hb d_B_append_0 rfl (lv_at hl 0 rfl) ?_
  refine lv_aload_n hx hb d_B_append_1 rfl (lv_at hl 0 rfl) ?_
  refine gf_B_20 C0 hH hB rfl d_B_append_2 ?_
  refine lv_iconst (v := 1) hx hb d_B_append_5 (by decide) ?_
  refine lv_iadd hx hb d_B_append_6 ?_
  rw [show ((nI nF) + 1) = nI (nF + 1) from nI_1 nF]
  refine gn_v (runV C0 (k_B_makeRoom1 l G w hB hF (nF + 1) c1 (by omega) (by omega) h2 (by rw [hc, Nat.max_eq_right (by omega)])) (cs_B_100 C0 ⟨Nat.le_of_ble_eq_true rfl, Nat.le_of_ble_eq_true rfl⟩) hH hS (hd_recv C0.hK hH rfl hB) rfl hl.1 rfl (lv_room (Nat.le_of_ble_eq_true rfl)) d_B_append_7 ⟨by show _ ≤ 1; omega, by show _ ≤ c1; omega⟩) hS (fun w1 H locs hp1 hH hS => ?_)
  obtain ⟨F1, hnF1, ew1⟩ := hp1
  have hw1_x : w1 x = some (.inr (2, [.ref L, .ref F1, .int (nI nF), .ref Gd])) := by rw [ew1]; exact va_up_self _ _ _
  have hw1_F1 : w1 F1 = some (.inl (G.2.1.1, c1, .inl (va_cpy g (fun _ => 0) 0 0 cF))) := by rw [ew1, va_up_ne _ _ (wnf hB hnF1).symm]; exact va_up_self _ _ _
  refine lv_aload_n hx hb d_B_append_10 rfl (lv_at hl 0 rfl) ?_
  refine gf_B_20 C0 hH hw1_x rfl d_B_append_11 ?_
  refine lv_aload_n hx hb d_B_append_14 rfl (lv_at hl 0 rfl) ?_
  refine gf_B_16 C0 hH hw1_x rfl d_B_append_15 ?_
  refine hd_alen hx hb C0.hK hH 0 hw1_F1 rfl (v := nI c1) rfl d_B_append_18 ?_
  refine lv_icmp_ge (tgt := 42) hx hb d_B_append_19 (by decide) (fun c_19 => ?_) (fun c_19 => ?_)
  · exact absurd c_19 (Int32.not_le.mpr (nI_lt (show nF < c1 by omega) (by omega)))
  · refine lv_aload_n hx hb d_B_append_22 rfl (lv_at hl 0 rfl) ?_
    refine gf_B_16 C0 hH hw1_x rfl d_B_append_23 ?_
    refine lv_aload_n hx hb d_B_append_26 rfl (lv_at hl 0 rfl) ?_
    refine gf_B_20 C0 hH hw1_x rfl d_B_append_27 ?_
    refine lv_iload_n hx hb d_B_append_30 rfl (lv_at hl 1 rfl) ?_
    refine hd_iast hx hb C0.hK hH hS 0 hw1_F1 rfl (vp_in_nI (by omega) (by omega)) d_B_append_31 (fun H locs hH hS => ?_)
    rw [nI_clamp (by omega)] at hH
    obtain ⟨w2, ew2⟩ : ∃ z : World, z = va_up w1 F1 (some (.inl (G.2.1.1, c1, .inl (upd (va_cpy g (fun _ => 0) 0 0 cF) nF v)))) := ⟨_, rfl⟩
    have hH : Hw G w2 H := by rw [ew2]; exact hH
    have hw2_x : w2 x = some (.inr (2, [.ref L, .ref F1, .int (nI nF), .ref Gd])) := by rw [ew2, va_up_ne _ _ (wne hw1_x hw1_F1 (by simp))]; exact hw1_x
    have hw2_F1 : w2 F1 = some (.inl (G.2.1.1, c1, .inl (upd (va_cpy g (fun _ => 0) 0 0 cF) nF v))) := by rw [ew2]; exact va_up_self _ _ _
    refine lv_aload_n hx hb d_B_append_32 rfl (lv_at hl 0 rfl) ?_
    refine lv_dup hx hb d_B_append_33 rfl ?_
    refine gf_B_20 C0 hH hw2_x rfl d_B_append_34 ?_
    refine lv_iconst (v := 1) hx hb d_B_append_37 (by decide) ?_
    refine lv_iadd hx hb d_B_append_38 ?_
    rw [show ((nI nF) + 1) = nI (nF + 1) from nI_1 nF]
    refine pf_B_20 C0 hH hS hw2_x rfl rfl (Nat.le_of_ble_eq_true rfl) d_B_append_39 (fun H locs hH hS => ?_)
    obtain ⟨w3, ew3⟩ : ∃ z : World, z = va_up w2 x (some (.inr (2, [.ref L, .ref F1, .int (nI (nF + 1)), .ref Gd]))) := ⟨_, rfl⟩
    have hH : Hw G w3 H := by rw [ew3]; exact hH
    have hw3_F1 : w3 F1 = some (.inl (G.2.1.1, c1, .inl (upd (va_cpy g (fun _ => 0) 0 0 cF) nF v))) := by rw [ew3, va_up_ne _ _ (wne hw2_F1 hw2_x (by simp))]; exact hw2_F1
    have hw3_x : w3 x = some (.inr (2, [.ref L, .ref F1, .int (nI (nF + 1)), .ref Gd])) := by rw [ew3]; exact va_up_self _ _ _
    refine W.widen (k := 1) (n := c1) (by omega) (by omega) ?_
    exact W.vret hx hb hr (fun t ht hW => ⟨⟨w3, rfl, ⟨F1, _, Or.inr hnF1, hw3_F1, fun i hi => by simp only [upd]; rw [if_neg (Nat.ne_of_lt hi), pk_cpy_in (Nat.zero_le _) (by omega)]; simp, by simp [upd], hw3_x, by rw [ew3, ew2]; refine Kp.trans ?_ (Kp.trans (Kp.up (S := [x, F1]) (Or.inl (by simp))) (Kp.up (Or.inl (List.mem_cons_self ..))) (by intro b hb; exact Or.inl hb)) (by intro b hb; simp only [List.mem_cons, List.not_mem_nil, or_false] at hb; rcases hb with h | h; (exact Or.inl (by simp [h])); (exact Or.inr (by rw [h]; exact hnF1))); rw [ew1]; exact (Kp.up (Or.inr hnF1)).trans (Kp.up (S := [x]) (Or.inl (by simp))) (by intro b hb; simp at hb; subst hb; exact Or.inl (by simp))⟩, Wo.at C0.ev hH hS ht hW⟩, hS.F ht⟩) hS.2.2 d_B_append_42 (hlocks := C0.2.2.2.2.2.2)

set_option maxHeartbeats 4000000 in
set_option maxRecDepth 100000 in
theorem k_B_mrd0 (l : Launch) (G : Gl) (w : World) {x L F Gd cF cG : Nat} {n : Int32} {g : Nat → Int32} {d : Nat → Int64} (hB : w x = some (.inr (2, [.ref L, .ref F, .int n, .ref Gd]))) (hF : w F = some (.inl (G.2.1.1, cF, .inl g))) (hG : w Gd = some (.inl (G.2.1.2.1, cG, .inr (.inl d)))) (h1 : cF ≤ cG) (h2 : cG ≤ 4096) :
    PuM l y_B_makeRoomForDistances ws_B_makeRoomForDistances 0 G w [.ref x] none := by
  refine met_ent (by decide +kernel) (Nat.le_of_ble_eq_true rfl) (fun p e s m below meth c ls C0 hr hin hH hl => ?_)
  have hx := C0.1
  have hb := C0.2.1
  have hS : va_S (gA G) s.heap s.heap [] := va_S.rf
  have hA : ∀ q : Nat, s.heap.size ≤ q → gA G q := fun q h => Nat.le_trans C0.ev.2.2.2.2.2.2.2.2.2.2.2.2 h
  have hl : lv_has ls 1 [(0, .ref x)] := hl
  refine lv_aload_n hx hb d_B_makeRoomForDistances_0 rfl (lv_at hl 0 rfl) ?_
  refine gf_B_24 C0 hH hB rfl d_B_makeRoomForDistances_1 ?_
  refine hd_alen hx hb C0.hK hH 1 hG rfl (v := nI cG) rfl d_B_makeRoomForDistances_4 ?_
  refine lv_aload_n hx hb d_B_makeRoomForDistances_5 rfl (lv_at hl 0 rfl) ?_
  refine gf_B_16 C0 hH hB rfl d_B_makeRoomForDistances_6 ?_
  refine hd_alen hx hb C0.hK hH 0 hF rfl (v := nI cF) rfl d_B_makeRoomForDistances_9 ?_
  refine lv_icmp_ge (tgt := 24) hx hb d_B_makeRoomForDistances_10 (by decide) (fun c_10 => ?_) (fun c_10 => ?_)
  · exact W.vret hx hb hr (fun t ht _ => ⟨rfl, ht⟩) (fun _ h => by cases h) d_B_makeRoomForDistances_24 (hlocks := C0.2.2.2.2.2.2)
  · exact absurd (nI_le h1 (by omega)) c_10

set_option maxHeartbeats 4000000 in
set_option maxRecDepth 100000 in
theorem k_B_mrd1 (l : Launch) (G : Gl) (w : World) {x L F Gd cF cG : Nat} {n : Int32} {g : Nat → Int32} {d : Nat → Int64} (hB : w x = some (.inr (2, [.ref L, .ref F, .int n, .ref Gd]))) (hF : w F = some (.inl (G.2.1.1, cF, .inl g))) (hG : w Gd = some (.inl (G.2.1.2.1, cG, .inr (.inl d)))) (h1 : cG < cF) (h2 : cF ≤ 4096) :
    GnV l y_B_makeRoomForDistances ws_B_makeRoomForDistances 0 1 cF G w [.ref x] (fun w1 => ∃ G1 : Nat, w G1 = none ∧ w1 G1 = some (.inl (G.2.1.2.1, cF, .inr (.inl (fun _ => 0)))) ∧ w1 x = some (.inr (2, [.ref L, .ref F, .int n, .ref G1])) ∧ Kp w w1 [x]) := by
  refine met_ent (by decide +kernel) (Nat.le_of_ble_eq_true rfl) (fun p e s m below meth c ls C0 hr hin hH hl => ?_)
  have hx := C0.1
  have hb := C0.2.1
  have hS : va_S (gA G) s.heap s.heap [] := va_S.rf
  have hA : ∀ q : Nat, s.heap.size ≤ q → gA G q := fun q h => Nat.le_trans C0.ev.2.2.2.2.2.2.2.2.2.2.2.2 h
  have hl : lv_has ls 1 [(0, .ref x)] := hl
  refine lv_aload_n hx hb d_B_makeRoomForDistances_0 rfl (lv_at hl 0 rfl) ?_
  refine gf_B_24 C0 hH hB rfl d_B_makeRoomForDistances_1 ?_
  refine hd_alen hx hb C0.hK hH 1 hG rfl (v := nI cG) rfl d_B_makeRoomForDistances_4 ?_
  refine lv_aload_n hx hb d_B_makeRoomForDistances_5 rfl (lv_at hl 0 rfl) ?_
  refine gf_B_16 C0 hH hB rfl d_B_makeRoomForDistances_6 ?_
  refine hd_alen hx hb C0.hK hH 0 hF rfl (v := nI cF) rfl d_B_makeRoomForDistances_9 ?_
  refine lv_icmp_ge (tgt := 24) hx hb d_B_makeRoomForDistances_10 (by decide) (fun c_10 => ?_) (fun c_10 => ?_)
  · exact absurd c_10 (Int32.not_le.mpr (nI_lt h1 (by omega)))
  · refine lv_aload_n hx hb d_B_makeRoomForDistances_13 rfl (lv_at hl 0 rfl) ?_
    refine lv_aload_n hx hb d_B_makeRoomForDistances_14 rfl (lv_at hl 0 rfl) ?_
    refine gf_B_16 C0 hH hB rfl d_B_makeRoomForDistances_15 ?_
    refine hd_alen hx hb C0.hK hH 0 hF rfl (v := nI cF) rfl d_B_makeRoomForDistances_18 ?_
    refine hd_newa (atype := .long) (N' := cF) (a0 := (cF, .inr (.inl (fun _ => 0)))) hx hb (C0.2.2.2.2.1 _ mw_73) rfl (by intro C h; cases h) C0.hK 1 rfl hH hS hA (fun _ => rfl) (nI_pos (by omega)) (nI_clamp (by omega)) (by show _ * 8 ≤ _; omega) (by show _ ≤ 1; omega) (by show _ ≤ cF; omega) d_B_makeRoomForDistances_19 (fun q19 H hnq19 hH hS => ?_)
    obtain ⟨w1, ew1⟩ : ∃ z : World, z = va_up w q19 (some (.inl (G.2.1.2.1, cF, .inr (.inl (fun _ => 0))))) := ⟨_, rfl⟩
    have hH : Hw G w1 H := by rw [ew1]; exact hH
    have hw1_x : w1 x = some (.inr (2, [.ref L, .ref F, .int n, .ref Gd])) := by rw [ew1, va_up_ne _ _ (wnf hB hnq19)]; exact hB
    have hw1_F : w1 F = some (.inl (G.2.1.1, cF, .inl g)) := by rw [ew1, va_up_ne _ _ (wnf hF hnq19)]; exact hF
    have hw1_Gd : w1 Gd = some (.inl (G.2.1.2.1, cG, .inr (.inl d))) := by rw [ew1, va_up_ne _ _ (wnf hG hnq19)]; exact hG
    have hw1_q19 : w1 q19 = some (.inl (G.2.1.2.1, cF, .inr (.inl (fun _ => 0)))) := by rw [ew1]; exact va_up_self _ _ _
    refine pf_B_24 C0 hH hS hw1_x rfl rfl (Nat.le_of_ble_eq_true rfl) d_B_makeRoomForDistances_21 (fun H locs hH hS => ?_)
    obtain ⟨w2, ew2⟩ : ∃ z : World, z = va_up w1 x (some (.inr (2, [.ref L, .ref F, .int n, .ref q19]))) := ⟨_, rfl⟩
    have hH : Hw G w2 H := by rw [ew2]; exact hH
    have hw2_F : w2 F = some (.inl (G.2.1.1, cF, .inl g)) := by rw [ew2, va_up_ne _ _ (wne hw1_F hw1_x (by simp))]; exact hw1_F
    have hw2_Gd : w2 Gd = some (.inl (G.2.1.2.1, cG, .inr (.inl d))) := by rw [ew2, va_up_ne _ _ (wne hw1_Gd hw1_x (by simp))]; exact hw1_Gd
    have hw2_q19 : w2 q19 = some (.inl (G.2.1.2.1, cF, .inr (.inl (fun _ => 0)))) := by rw [ew2, va_up_ne _ _ ((wnf hB hnq19).symm)]; exact hw1_q19
    have hw2_x : w2 x = some (.inr (2, [.ref L, .ref F, .int n, .ref q19])) := by rw [ew2]; exact va_up_self _ _ _
    refine W.widen (k := 1) (n := cF) (by omega) (by omega) ?_
    exact W.vret hx hb hr (fun t ht hW => ⟨⟨w2, rfl, ⟨q19, hnq19, hw2_q19, hw2_x, by rw [ew2, ew1]; exact (Kp.up (Or.inr hnq19)).trans (Kp.up (S := [x]) (Or.inl (by simp))) (by intro b hb; exact Or.inl hb)⟩, Wo.at C0.ev hH hS ht hW⟩, hS.F ht⟩) hS.2.2 d_B_makeRoomForDistances_24 (hlocks := C0.2.2.2.2.2.2)
