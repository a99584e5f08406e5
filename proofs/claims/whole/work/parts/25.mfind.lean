/-! the model's constructor, find, bounds -/
/-- the model's boxes from j on, u numbers -/
def bl (th lx ly ux uy : Nat → Int32) : Nat → Nat → List Bx
  | _, 0 => []
  | j, u + 1 => if th j = 0 then bl th lx ly ux uy (j + 1) u else mb lx ly ux uy j :: bl th lx ly ux uy (j + 1) u
def boF (z : Int32) (o : Option Int32) (bs : List Bx) : Option Int32 := bs.foldl (fun o b => some (match o with | none => bnd b z | some v => mmx z v (bnd b z))) o
theorem fitsP0 {a b : Bx} : fitsP 0 a b = bMeets a b := if_pos rfl
theorem fitsP1 {a b : Bx} : fitsP 1 a b = bIn a b := by unfold fitsP; rw [if_neg (by decide), if_pos rfl]
theorem fitsP2 {k : Int32} {a b : Bx} (h0 : ¬ k = 0) (h1 : ¬ k = 1) : fitsP k a b = bIn b a := by unfold fitsP; rw [if_neg h0, if_neg h1]
theorem in02 {k : Int32} : (0 ≤ k ∧ k ≤ 2) ↔ okF k := Iff.rfl

/-- a new model -/
def NewM (G : Gl) (w w1 : World) (y : Nat) : Prop := ∃ aT aX aY aU aV aR : Nat, w aT = none ∧ w aX = none ∧ w aY = none ∧ w aU = none ∧ w aV = none ∧ w aR = none ∧ MAt G w1 y aT aX aY aU aV aR 0 (fun _ => 0) (fun _ => 0) (fun _ => 0) (fun _ => 0) (fun _ => 0) 0 (fun _ => 0) ∧ Kp w w1 [y]

set_option maxHeartbeats 4000000 in
set_option maxRecDepth 100000 in
theorem k_M_init (l : Launch) (G : Gl) (w : World) {y : Nat} (hY : w y = some (.inr (3, [.int 0, .null, .null, .null, .null, .null, .int 0, .null]))) :
    GnV l y_M_init ws_M_init 4 6 24576 G w [.ref y] (fun w1 => NewM G w w1 y) := by
  refine met_ent (by decide +kernel) (Nat.le_of_ble_eq_true rfl) (fun p e s m below meth c ls C0 hr hin hH hl => ?_)
  have hx := C0.1
  have hb := C0.2.1
  have hS : va_S (gA G) s.heap s.heap [] := va_S.rf
  have hA : ∀ q : Nat, s.heap.size ≤ q → gA G q := fun q h => Nat.le_trans C0.ev.2.2.2.2.2.2.2.2.2.2.2.2 h
  have hl : lv_has ls 1 [(0, .ref y)] := hl
  refine lv_aload_n hx hb d_M_init_0 rfl (lv_at hl 0 rfl) ?_
  refine W.objInit hx hb C0.2.2.2.1 (C0.2.2.2.2.1 _ mw_693) (C0.2.2.2.2.1 _ mw_31) (C0.2.2.2.2.1 _ mw_32) rfl (hl.1.trans C0.2.2.1.symm) rfl d_M_init_1 (Nat.le_of_ble_eq_true rfl) (Nat.le_of_ble_eq_true rfl) ?_
  refine W.eq (g2 := F0 m 4 ls []) rfl ?_
  refine lv_aload_n hx hb d_M_init_4 rfl (lv_at hl 0 rfl) ?_
  refine lv_sipush (v := 4096) hx hb d_M_init_5 (by decide) ?_
  refine hd_newa (atype := .boolean) (N' := 4096) (a0 := (4096, .inl (fun _ => 0))) hx hb (C0.2.2.2.2.1 _ mw_719) rfl (by intro C h; cases h) C0.hK 2 rfl hH hS hA (fun _ => rfl) (by decide) (by decide) (by decide) (by show _ ≤ 6; omega) (by show _ ≤ 24576; omega) d_M_init_8 (fun q8 H hnq8 hH hS => ?_)
  have hf_q8 : w q8 = none := by have h := hnq8; exact h
  obtain ⟨w1, ew1⟩ : ∃ z : World, z = va_up w q8 (some (.inl (G.2.1.2.2.1, 4096, .inl (fun _ => 0)))) := ⟨_, rfl⟩
  have hH : Hw G w1 H := by rw [ew1]; exact hH
  have hw1_y : w1 y = some (.inr (3, [.int 0, .null, .null, .null, .null, .null, .int 0, .null])) := by rw [ew1, va_up_ne _ _ (wnf hY hnq8)]; exact hY
  have hw1_q8 : w1 q8 = some (.inl (G.2.1.2.2.1, 4096, .inl (fun _ => 0))) := by rw [ew1]; exact va_up_self _ _ _
  refine pf_M_7 C0 (hin rfl) hH hS hw1_y rfl rfl (Nat.le_of_ble_eq_true rfl) d_M_init_10 (fun H locs hH hS => ?_)
  obtain ⟨w2, ew2⟩ : ∃ z : World, z = va_up w1 y (some (.inr (3, [.int 0, .ref q8, .null, .null, .null, .null, .int 0, .null]))) := ⟨_, rfl⟩
  have hH : Hw G w2 H := by rw [ew2]; exact hH
  have hw2_q8 : w2 q8 = some (.inl (G.2.1.2.2.1, 4096, .inl (fun _ => 0))) := by rw [ew2, va_up_ne _ _ ((wnf hY hnq8).symm)]; exact hw1_q8
  have hw2_y : w2 y = some (.inr (3, [.int 0, .ref q8, .null, .null, .null, .null, .int 0, .null])) := by rw [ew2]; exact va_up_self _ _ _
  refine lv_aload_n hx hb d_M_init_13 rfl (lv_at hl 0 rfl) ?_
  refine lv_sipush (v := 4096) hx hb d_M_init_14 (by decide) ?_
  refine hd_newa (atype := .int) (N' := 4096) (a0 := (4096, .inl (fun _ => 0))) hx hb (C0.2.2.2.2.1 _ mw_72) rfl (by intro C h; cases h) C0.hK 0 rfl hH hS hA (fun _ => rfl) (by decide) (by decide) (by decide) (by show _ ≤ 6; omega) (by show _ ≤ 24576; omega) d_M_init_17 (fun q17 H hnq17 hH hS => ?_)
  have hf_q17 : w q17 = none := by have h := hnq17; rw [ew2] at h; have h := up_none h; rw [ew1] at h; have h := up_none h; exact h
  obtain ⟨w3, ew3⟩ : ∃ z : World, z = va_up w2 q17 (some (.inl (G.2.1.1, 4096, .inl (fun _ => 0)))) := ⟨_, rfl⟩
  have hH : Hw G w3 H := by rw [ew3]; exact hH
  have hw3_y : w3 y = some (.inr (3, [.int 0, .ref q8, .null, .null, .null, .null, .int 0, .null])) := by rw [ew3, va_up_ne _ _ (wnf hw2_y hnq17)]; exact hw2_y
  have hw3_q8 : w3 q8 = some (.inl (G.2.1.2.2.1, 4096, .inl (fun _ => 0))) := by rw [ew3, va_up_ne _ _ (wnf hw2_q8 hnq17)]; exact hw2_q8
  have hw3_q17 : w3 q17 = some (.inl (G.2.1.1, 4096, .inl (fun _ => 0))) := by rw [ew3]; exact va_up_self _ _ _
  refine pf_M_13 C0 (hin rfl) hH hS hw3_y rfl rfl (Nat.le_of_ble_eq_true rfl) d_M_init_19 (fun H locs hH hS => ?_)
  obtain ⟨w4, ew4⟩ : ∃ z : World, z = va_up w3 y (some (.inr (3, [.int 0, .ref q8, .ref q17, .null, .null, .null, .int 0, .null]))) := ⟨_, rfl⟩
  have hH : Hw G w4 H := by rw [ew4]; exact hH
  have hw4_q8 : w4 q8 = some (.inl (G.2.1.2.2.1, 4096, .inl (fun _ => 0))) := by rw [ew4, va_up_ne _ _ ((wnf hY hnq8).symm)]; exact hw3_q8
  have hw4_q17 : w4 q17 = some (.inl (G.2.1.1, 4096, .inl (fun _ => 0))) := by rw [ew4, va_up_ne _ _ ((wnf hw2_y hnq17).symm)]; exact hw3_q17
  have hw4_y : w4 y = some (.inr (3, [.int 0, .ref q8, .ref q17, .null, .null, .null, .int 0, .null])) := by rw [ew4]; exact va_up_self _ _ _
  refine lv_aload_n hx hb d_M_init_22 rfl (lv_at hl 0 rfl) ?_
  refine lv_sipush (v := 4096) hx hb d_M_init_23 (by decide) ?_
  refine hd_newa (atype := .int) (N' := 4096) (a0 := (4096, .inl (fun _ => 0))) hx hb (C0.2.2.2.2.1 _ mw_72) rfl (by intro C h; cases h) C0.hK 0 rfl hH hS hA (fun _ => rfl) (by decide) (by decide) (by decide) (by show _ ≤ 6; omega) (by show _ ≤ 24576; omega) d_M_init_26 (fun q26 H hnq26 hH hS => ?_)
  have hf_q26 : w q26 = none := by have h := hnq26; rw [ew4] at h; have h := up_none h; rw [ew3] at h; have h := up_none h; rw [ew2] at h; have h := up_none h; rw [ew1] at h; have h := up_none h; exact h
  obtain ⟨w5, ew5⟩ : ∃ z : World, z = va_up w4 q26 (some (.inl (G.2.1.1, 4096, .inl (fun _ => 0)))) := ⟨_, rfl⟩
  have hH : Hw G w5 H := by rw [ew5]; exact hH
  have hw5_y : w5 y = some (.inr (3, [.int 0, .ref q8, .ref q17, .null, .null, .null, .int 0, .null])) := by rw [ew5, va_up_ne _ _ (wnf hw4_y hnq26)]; exact hw4_y
  have hw5_q8 : w5 q8 = some (.inl (G.2.1.2.2.1, 4096, .inl (fun _ => 0))) := by rw [ew5, va_up_ne _ _ (wnf hw4_q8 hnq26)]; exact hw4_q8
  have hw5_q17 : w5 q17 = some (.inl (G.2.1.1, 4096, .inl (fun _ => 0))) := by rw [ew5, va_up_ne _ _ (wnf hw4_q17 hnq26)]; exact hw4_q17
  have hw5_q26 : w5 q26 = some (.inl (G.2.1.1, 4096, .inl (fun _ => 0))) := by rw [ew5]; exact va_up_self _ _ _
  refine pf_M_17 C0 (hin rfl) hH hS hw5_y rfl rfl (Nat.le_of_ble_eq_true rfl) d_M_init_28 (fun H locs hH hS => ?_)
  obtain ⟨w6, ew6⟩ : ∃ z : World, z = va_up w5 y (some (.inr (3, [.int 0, .ref q8, .ref q17, .ref q26, .null, .null, .int 0, .null]))) := ⟨_, rfl⟩
  have hH : Hw G w6 H := by rw [ew6]; exact hH
  have hw6_q8 : w6 q8 = some (.inl (G.2.1.2.2.1, 4096, .inl (fun _ => 0))) := by rw [ew6, va_up_ne _ _ ((wnf hY hnq8).symm)]; exact hw5_q8
  have hw6_q17 : w6 q17 = some (.inl (G.2.1.1, 4096, .inl (fun _ => 0))) := by rw [ew6, va_up_ne _ _ ((wnf hw2_y hnq17).symm)]; exact hw5_q17
  have hw6_q26 : w6 q26 = some (.inl (G.2.1.1, 4096, .inl (fun _ => 0))) := by rw [ew6, va_up_ne _ _ ((wnf hw4_y hnq26).symm)]; exact hw5_q26
  have hw6_y : w6 y = some (.inr (3, [.int 0, .ref q8, .ref q17, .ref q26, .null, .null, .int 0, .null])) := by rw [ew6]; exact va_up_self _ _ _
  refine lv_aload_n hx hb d_M_init_31 rfl (lv_at hl 0 rfl) ?_
  refine lv_sipush (v := 4096) hx hb d_M_init_32 (by decide) ?_
  refine hd_newa (atype := .int) (N' := 4096) (a0 := (4096, .inl (fun _ => 0))) hx hb (C0.2.2.2.2.1 _ mw_72) rfl (by intro C h; cases h) C0.hK 0 rfl hH hS hA (fun _ => rfl) (by decide) (by decide) (by decide) (by show _ ≤ 6; omega) (by show _ ≤ 24576; omega) d_M_init_35 (fun q35 H hnq35 hH hS => ?_)
  have hf_q35 : w q35 = none := by have h := hnq35; rw [ew6] at h; have h := up_none h; rw [ew5] at h; have h := up_none h; rw [ew4] at h; have h := up_none h; rw [ew3] at h; have h := up_none h; rw [ew2] at h; have h := up_none h; rw [ew1] at h; have h := up_none h; exact h
  obtain ⟨w7, ew7⟩ : ∃ z : World, z = va_up w6 q35 (some (.inl (G.2.1.1, 4096, .inl (fun _ => 0)))) := ⟨_, rfl⟩
  have hH : Hw G w7 H := by rw [ew7]; exact hH
  have hw7_y : w7 y = some (.inr (3, [.int 0, .ref q8, .ref q17, .ref q26, .null, .null, .int 0, .null])) := by rw [ew7, va_up_ne _ _ (wnf hw6_y hnq35)]; exact hw6_y
  have hw7_q8 : w7 q8 = some (.inl (G.2.1.2.2.1, 4096, .inl (fun _ => 0))) := by rw [ew7, va_up_ne _ _ (wnf hw6_q8 hnq35)]; exact hw6_q8
  have hw7_q17 : w7 q17 = some (.inl (G.2.1.1, 4096, .inl (fun _ => 0))) := by rw [ew7, va_up_ne _ _ (wnf hw6_q17 hnq35)]; exact hw6_q17
  have hw7_q26 : w7 q26 = some (.inl (G.2.1.1, 4096, .inl (fun _ => 0))) := by rw [ew7, va_up_ne _ _ (wnf hw6_q26 hnq35)]; exact hw6_q26
  have hw7_q35 : w7 q35 = some (.inl (G.2.1.1, 4096, .inl (fun _ => 0))) := by rw [ew7]; exact va_up_self _ _ _
  refine pf_M_20 C0 (hin rfl) hH hS hw7_y rfl rfl (Nat.le_of_ble_eq_true rfl) d_M_init_37 (fun H locs hH hS => ?_)
  obtain ⟨w8, ew8⟩ : ∃ z : World, z = va_up w7 y (some (.inr (3, [.int 0, .ref q8, .ref q17, .ref q26, .ref q35, .null, .int 0, .null]))) := ⟨_, rfl⟩
  have hH : Hw G w8 H := by rw [ew8]; exact hH
  have hw8_q8 : w8 q8 = some (.inl (G.2.1.2.2.1, 4096, .inl (fun _ => 0))) := by rw [ew8, va_up_ne _ _ ((wnf hY hnq8).symm)]; exact hw7_q8
  have hw8_q17 : w8 q17 = some (.inl (G.2.1.1, 4096, .inl (fun _ => 0))) := by rw [ew8, va_up_ne _ _ ((wnf hw2_y hnq17).symm)]; exact hw7_q17
  have hw8_q26 : w8 q26 = some (.inl (G.2.1.1, 4096, .inl (fun _ => 0))) := by rw [ew8, va_up_ne _ _ ((wnf hw4_y hnq26).symm)]; exact hw7_q26
  have hw8_q35 : w8 q35 = some (.inl (G.2.1.1, 4096, .inl (fun _ => 0))) := by rw [ew8, va_up_ne _ _ ((wnf hw6_y hnq35).symm)]; exact hw7_q35
  have hw8_y : w8 y = some (.inr (3, [.int 0, .ref q8, .ref q17, .ref q26, .ref q35, .null, .int 0, .null])) := by rw [ew8]; exact va_up_self _ _ _
  refine lv_aload_n hx hb d_M_init_40 rfl (lv_at hl 0 rfl) ?_
  refine lv_sipush (v := 4096) hx hb d_M_init_41 (by decide) ?_
  refine hd_newa (atype := .int) (N' := 4096) (a0 := (4096, .inl (fun _ => 0))) hx hb (C0.2.2.2.2.1 _ mw_72) rfl (by intro C h; cases h) C0.hK 0 rfl hH hS hA (fun _ => rfl) (by decide) (by decide) (by decide) (by show _ ≤ 6; omega) (by show _ ≤ 24576; omega) d_M_init_44 (fun q44 H hnq44 hH hS => ?_)
  have hf_q44 : w q44 = none := by have h := hnq44; rw [ew8] at h; have h := up_none h; rw [ew7] at h; have h := up_none h; rw [ew6] at h; have h := up_none h; rw [ew5] at h; have h := up_none h; rw [ew4] at h; have h := up_none h; rw [ew3] at h; have h := up_none h; rw [ew2] at h; have h := up_none h; rw [ew1] at h; have h := up_none h; exact h
  obtain ⟨w9, ew9⟩ : ∃ z : World, z = va_up w8 q44 (some (.inl (G.2.1.1, 4096, .inl (fun _ => 0)))) := ⟨_, rfl⟩
  have hH : Hw G w9 H := by rw [ew9]; exact hH
  have hw9_y : w9 y = some (.inr (3, [.int 0, .ref q8, .ref q17, .ref q26, .ref q35, .null, .int 0, .null])) := by rw [ew9, va_up_ne _ _ (wnf hw8_y hnq44)]; exact hw8_y
  have hw9_q8 : w9 q8 = some (.inl (G.2.1.2.2.1, 4096, .inl (fun _ => 0))) := by rw [ew9, va_up_ne _ _ (wnf hw8_q8 hnq44)]; exact hw8_q8
  have hw9_q17 : w9 q17 = some (.inl (G.2.1.1, 4096, .inl (fun _ => 0))) := by rw [ew9, va_up_ne _ _ (wnf hw8_q17 hnq44)]; exact hw8_q17
  have hw9_q26 : w9 q26 = some (.inl (G.2.1.1, 4096, .inl (fun _ => 0))) := by rw [ew9, va_up_ne _ _ (wnf hw8_q26 hnq44)]; exact hw8_q26
  have hw9_q35 : w9 q35 = some (.inl (G.2.1.1, 4096, .inl (fun _ => 0))) := by rw [ew9, va_up_ne _ _ (wnf hw8_q35 hnq44)]; exact hw8_q35
  have hw9_q44 : w9 q44 = some (.inl (G.2.1.1, 4096, .inl (fun _ => 0))) := by rw [ew9]; exact va_up_self _ _ _
  refine pf_M_23 C0 (hin rfl) hH hS hw9_y rfl rfl (Nat.le_of_ble_eq_true rfl) d_M_init_46 (fun H locs hH hS => ?_)
  obtain ⟨w10, ew10⟩ : ∃ z : World, z = va_up w9 y (some (.inr (3, [.int 0, .ref q8, .ref q17, .ref q26, .ref q35, .ref q44, .int 0, .null]))) := ⟨_, rfl⟩
  have hH : Hw G w10 H := by rw [ew10]; exact hH
  have hw10_q8 : w10 q8 = some (.inl (G.2.1.2.2.1, 4096, .inl (fun _ => 0))) := by rw [ew10, va_up_ne _ _ ((wnf hY hnq8).symm)]; exact hw9_q8
  have hw10_q17 : w10 q17 = some (.inl (G.2.1.1, 4096, .inl (fun _ => 0))) := by rw [ew10, va_up_ne _ _ ((wnf hw2_y hnq17).symm)]; exact hw9_q17
  have hw10_q26 : w10 q26 = some (.inl (G.2.1.1, 4096, .inl (fun _ => 0))) := by rw [ew10, va_up_ne _ _ ((wnf hw4_y hnq26).symm)]; exact hw9_q26
  have hw10_q35 : w10 q35 = some (.inl (G.2.1.1, 4096, .inl (fun _ => 0))) := by rw [ew10, va_up_ne _ _ ((wnf hw6_y hnq35).symm)]; exact hw9_q35
  have hw10_q44 : w10 q44 = some (.inl (G.2.1.1, 4096, .inl (fun _ => 0))) := by rw [ew10, va_up_ne _ _ ((wnf hw8_y hnq44).symm)]; exact hw9_q44
  have hw10_y : w10 y = some (.inr (3, [.int 0, .ref q8, .ref q17, .ref q26, .ref q35, .ref q44, .int 0, .null])) := by rw [ew10]; exact va_up_self _ _ _
  refine lv_aload_n hx hb d_M_init_49 rfl (lv_at hl 0 rfl) ?_
  refine lv_sipush (v := 4096) hx hb d_M_init_50 (by decide) ?_
  refine hd_newa (atype := .int) (N' := 4096) (a0 := (4096, .inl (fun _ => 0))) hx hb (C0.2.2.2.2.1 _ mw_72) rfl (by intro C h; cases h) C0.hK 0 rfl hH hS hA (fun _ => rfl) (by decide) (by decide) (by decide) (by show _ ≤ 6; omega) (by show _ ≤ 24576; omega) d_M_init_53 (fun q53 H hnq53 hH hS => ?_)
  have hf_q53 : w q53 = none := by have h := hnq53; rw [ew10] at h; have h := up_none h; rw [ew9] at h; have h := up_none h; rw [ew8] at h; have h := up_none h; rw [ew7] at h; have h := up_none h; rw [ew6] at h; have h := up_none h; rw [ew5] at h; have h := up_none h; rw [ew4] at h; have h := up_none h; rw [ew3] at h; have h := up_none h; rw [ew2] at h; have h := up_none h; rw [ew1] at h; have h := up_none h; exact h
  obtain ⟨w11, ew11⟩ : ∃ z : World, z = va_up w10 q53 (some (.inl (G.2.1.1, 4096, .inl (fun _ => 0)))) := ⟨_, rfl⟩
  have hH : Hw G w11 H := by rw [ew11]; exact hH
  have hw11_y : w11 y = some (.inr (3, [.int 0, .ref q8, .ref q17, .ref q26, .ref q35, .ref q44, .int 0, .null])) := by rw [ew11, va_up_ne _ _ (wnf hw10_y hnq53)]; exact hw10_y
  have hw11_q8 : w11 q8 = some (.inl (G.2.1.2.2.1, 4096, .inl (fun _ => 0))) := by rw [ew11, va_up_ne _ _ (wnf hw10_q8 hnq53)]; exact hw10_q8
  have hw11_q17 : w11 q17 = some (.inl (G.2.1.1, 4096, .inl (fun _ => 0))) := by rw [ew11, va_up_ne _ _ (wnf hw10_q17 hnq53)]; exact hw10_q17
  have hw11_q26 : w11 q26 = some (.inl (G.2.1.1, 4096, .inl (fun _ => 0))) := by rw [ew11, va_up_ne _ _ (wnf hw10_q26 hnq53)]; exact hw10_q26
  have hw11_q35 : w11 q35 = some (.inl (G.2.1.1, 4096, .inl (fun _ => 0))) := by rw [ew11, va_up_ne _ _ (wnf hw10_q35 hnq53)]; exact hw10_q35
  have hw11_q44 : w11 q44 = some (.inl (G.2.1.1, 4096, .inl (fun _ => 0))) := by rw [ew11, va_up_ne _ _ (wnf hw10_q44 hnq53)]; exact hw10_q44
  have hw11_q53 : w11 q53 = some (.inl (G.2.1.1, 4096, .inl (fun _ => 0))) := by rw [ew11]; exact va_up_self _ _ _
  refine pf_M_26 C0 (hin rfl) hH hS hw11_y rfl rfl (Nat.le_of_ble_eq_true rfl) d_M_init_55 (fun H locs hH hS => ?_)
  obtain ⟨w12, ew12⟩ : ∃ z : World, z = va_up w11 y (some (.inr (3, [.int 0, .ref q8, .ref q17, .ref q26, .ref q35, .ref q44, .int 0, .ref q53]))) := ⟨_, rfl⟩
  have hH : Hw G w12 H := by rw [ew12]; exact hH
  have hw12_q8 : w12 q8 = some (.inl (G.2.1.2.2.1, 4096, .inl (fun _ => 0))) := by rw [ew12, va_up_ne _ _ ((wnf hY hnq8).symm)]; exact hw11_q8
  have hw12_q17 : w12 q17 = some (.inl (G.2.1.1, 4096, .inl (fun _ => 0))) := by rw [ew12, va_up_ne _ _ ((wnf hw2_y hnq17).symm)]; exact hw11_q17
  have hw12_q26 : w12 q26 = some (.inl (G.2.1.1, 4096, .inl (fun _ => 0))) := by rw [ew12, va_up_ne _ _ ((wnf hw4_y hnq26).symm)]; exact hw11_q26
  have hw12_q35 : w12 q35 = some (.inl (G.2.1.1, 4096, .inl (fun _ => 0))) := by rw [ew12, va_up_ne _ _ ((wnf hw6_y hnq35).symm)]; exact hw11_q35
  have hw12_q44 : w12 q44 = some (.inl (G.2.1.1, 4096, .inl (fun _ => 0))) := by rw [ew12, va_up_ne _ _ ((wnf hw8_y hnq44).symm)]; exact hw11_q44
  have hw12_q53 : w12 q53 = some (.inl (G.2.1.1, 4096, .inl (fun _ => 0))) := by rw [ew12, va_up_ne _ _ ((wnf hw10_y hnq53).symm)]; exact hw11_q53
  have hw12_y : w12 y = some (.inr (3, [.int 0, .ref q8, .ref q17, .ref q26, .ref q35, .ref q44, .int 0, .ref q53])) := by rw [ew12]; exact va_up_self _ _ _
  refine W.widen (k := 6) (n := 24576) (by omega) (by omega) ?_
  exact W.vret hx hb hr (fun t ht hW => ⟨⟨w12, rfl, ⟨q8, q17, q26, q35, q44, q53, hf_q8, hf_q17, hf_q26, hf_q35, hf_q44, hf_q53, ⟨hw12_y, hw12_q8, hw12_q17, hw12_q26, hw12_q35, hw12_q44, hw12_q53, ⟨wnf hw2_q8 hnq17, wnf hw4_q8 hnq26, wnf hw6_q8 hnq35, wnf hw8_q8 hnq44, wnf hw10_q8 hnq53, wnf hw4_q17 hnq26, wnf hw6_q17 hnq35, wnf hw8_q17 hnq44, wnf hw10_q17 hnq53, wnf hw6_q26 hnq35, wnf hw8_q26 hnq44, wnf hw10_q26 hnq53, wnf hw8_q35 hnq44, wnf hw10_q35 hnq53, wnf hw10_q44 hnq53⟩⟩, by rw [ew12, ew11, ew10, ew9, ew8, ew7, ew6, ew5, ew4, ew3, ew2, ew1]; exact (((((((((((Kp.up (Or.inr hf_q8)).ups (Or.inl (List.mem_cons_self ..))).ups (Or.inr hf_q17)).ups (Or.inl (List.mem_cons_self ..))).ups (Or.inr hf_q26)).ups (Or.inl (List.mem_cons_self ..))).ups (Or.inr hf_q35)).ups (Or.inl (List.mem_cons_self ..))).ups (Or.inr hf_q44)).ups (Or.inl (List.mem_cons_self ..))).ups (Or.inr hf_q53)).ups (Or.inl (List.mem_cons_self ..))⟩, Wo.at C0.ev hH hS ht hW⟩, hS.F ht⟩) hS.2.2 d_M_init_58 (hlocks := C0.2.2.2.2.2.2)

set_option maxHeartbeats 4000000 in
set_option maxRecDepth 100000 in
theorem k_M_find (l : Launch) (G : Gl) (w : World) {y aT aX aY aU aV aR sz : Nat} {tc : Int32} {th lx ly ux uy rf : Nat → Int32} (hM : MAt G w y aT aX aY aU aV aR tc th lx ly ux uy sz rf) (k : Int32) (q : Bx) (hk9 : okF k) (hq9 : okB q.2.1 q.2.2.1 q.2.2.2.1 q.2.2.2.2) :
    GnI l y_M_find ws_M_find 4 0 0 G w [.ref y, .int k, .int q.2.1, .int q.2.2.1, .int q.2.2.2.1, .int q.2.2.2.2] (fun r w1 => r = nI (fnd k q (bl th lx ly ux uy 0 4096)).length ∧ ∃ rf1 : Nat → Int32, (∀ (i : Nat) (h : i < (fnd k q (bl th lx ly ux uy 0 4096)).length), rf1 i = (fnd k q (bl th lx ly ux uy 0 4096))[i]) ∧ MDo G w w1 y aT aX aY aU aV aR 0 th lx ly ux uy ((fnd k q (bl th lx ly ux uy 0 4096)).length) rf1) := by
  refine met_ent (by decide +kernel) (Nat.le_of_ble_eq_true rfl) (fun p e s m below meth c ls C0 hr hin hH hl => ?_)
  have hx := C0.1
  have hb := C0.2.1
  have hS : va_S (gA G) s.heap s.heap [] := va_S.rf
  have hA : ∀ q : Nat, s.heap.size ≤ q → gA G q := fun q h => Nat.le_trans C0.ev.2.2.2.2.2.2.2.2.2.2.2.2 h
  have hl : lv_has ls 8 [(0, .ref y), (1, .int k), (2, .int q.2.1), (3, .int q.2.2.1), (4, .int q.2.2.2.1), (5, .int q.2.2.2.2)] := hl
  obtain ⟨hY, hT, hX, hYy, hU9, hV, hR, hDi⟩ := id hM
  obtain ⟨n_TX, n_TY, n_TU, n_TV, n_TR, n_XY, n_XU, n_XV, n_XR, n_YU, n_YV, n_YR, n_UV, n_UR, n_VR⟩ := id hDi
  refine lv_aload_n hx hb d_M_find_0 rfl (lv_at hl 0 rfl) ?_
  refine lv_iconst (v := 0) hx hb d_M_find_1 (by decide) ?_
  refine pf_M_29 C0 hH hS hY rfl rfl (Nat.le_of_ble_eq_true rfl) d_M_find_2 (fun H locs hH hS => ?_)
  obtain ⟨w1, ew1⟩ : ∃ z : World, z = va_up w y (some (.inr (3, [.int 0, .ref aT, .ref aX, .ref aY, .ref aU, .ref aV, .int (nI sz), .ref aR]))) := ⟨_, rfl⟩
  have hH : Hw G w1 H := by rw [ew1]; exact hH
  have hw1_aT : w1 aT = some (.inl (G.2.1.2.2.1, 4096, .inl th)) := by rw [ew1, va_up_ne _ _ (wne hT hY (by simp))]; exact hT
  have hw1_aX : w1 aX = some (.inl (G.2.1.1, 4096, .inl lx)) := by rw [ew1, va_up_ne _ _ (wne hX hY (by simp))]; exact hX
  have hw1_aY : w1 aY = some (.inl (G.2.1.1, 4096, .inl ly)) := by rw [ew1, va_up_ne _ _ (wne hYy hY (by simp))]; exact hYy
  have hw1_aU : w1 aU = some (.inl (G.2.1.1, 4096, .inl ux)) := by rw [ew1, va_up_ne _ _ (wne hU9 hY (by simp))]; exact hU9
  have hw1_aV : w1 aV = some (.inl (G.2.1.1, 4096, .inl uy)) := by rw [ew1, va_up_ne _ _ (wne hV hY (by simp))]; exact hV
  have hw1_aR : w1 aR = some (.inl (G.2.1.1, 4096, .inl rf)) := by rw [ew1, va_up_ne _ _ (wne hR hY (by simp))]; exact hR
  have hw1_y : w1 y = some (.inr (3, [.int 0, .ref aT, .ref aX, .ref aY, .ref aU, .ref aV, .int (nI sz), .ref aR])) := by rw [ew1]; exact va_up_self _ _ _
  refine lv_iload_n hx hb d_M_find_5 rfl (lv_at hl 1 rfl) ?_
  refine lv_iconst (v := 0) hx hb d_M_find_6 (by decide) ?_
  refine lv_iconst (v := 2) hx hb d_M_find_7 (by decide) ?_
  refine pu_v (runS C0 (k_M_within l G w1 k 0 2) (cs_M_35 C0 ⟨Nat.le_of_ble_eq_true rfl, Nat.le_of_ble_eq_true rfl⟩) hH hS rfl hl.1 rfl (lv_room (Nat.le_of_ble_eq_true rfl)) d_M_find_8 ⟨by show _ ≤ 0; omega, by show _ ≤ 0; omega⟩) ?_
  refine lv_if_eq (tgt := 26) hx hb d_M_find_11 (by decide) (fun c_11 => ?_) (fun c_11 => ?_)
  · exact absurd ((b01_t hk9).symm.trans c_11) (by decide)
  · refine lv_iload_n hx hb d_M_find_14 rfl (lv_at hl 2 rfl) ?_
    refine lv_iload_n hx hb d_M_find_15 rfl (lv_at hl 3 rfl) ?_
    refine lv_iload hx hb d_M_find_16 (lv_at hl 4 rfl) ?_
    refine lv_iload hx hb d_M_find_18 (lv_at hl 5 rfl) ?_
    refine pu_v (runS C0 (k_M_areBounds l G w1 q.2.1 q.2.2.1 q.2.2.2.1 q.2.2.2.2) (cs_M_47 C0 ⟨Nat.le_of_ble_eq_true rfl, Nat.le_of_ble_eq_true rfl⟩) hH hS rfl hl.1 rfl (lv_room (Nat.le_of_ble_eq_true rfl)) d_M_find_20 ⟨by show _ ≤ 0; omega, by show _ ≤ 0; omega⟩) ?_
    refine lv_if_ne (tgt := 32) hx hb d_M_find_23 (by decide) (fun c_23 => ?_) (fun c_23 => ?_)
    · refine lv_aload_n hx hb d_M_find_32 rfl (lv_at hl 0 rfl) ?_
      refine lv_iconst (v := 0) hx hb d_M_find_33 (by decide) ?_
      refine pf_M_55 C0 hH hS hw1_y rfl rfl (Nat.le_of_ble_eq_true rfl) d_M_find_34 (fun H locs hH hS => ?_)
      obtain ⟨w2, ew2⟩ : ∃ z : World, z = va_up w1 y (some (.inr (3, [.int 0, .ref aT, .ref aX, .ref aY, .ref aU, .ref aV, .int 0, .ref aR]))) := ⟨_, rfl⟩
      have hH : Hw G w2 H := by rw [ew2]; exact hH
      have hw2_aT : w2 aT = some (.inl (G.2.1.2.2.1, 4096, .inl th)) := by rw [ew2, va_up_ne _ _ (wne hw1_aT hw1_y (by simp))]; exact hw1_aT
      have hw2_aX : w2 aX = some (.inl (G.2.1.1, 4096, .inl lx)) := by rw [ew2, va_up_ne _ _ (wne hw1_aX hw1_y (by simp))]; exact hw1_aX
      have hw2_aY : w2 aY = some (.inl (G.2.1.1, 4096, .inl ly)) := by rw [ew2, va_up_ne _ _ (wne hw1_aY hw1_y (by simp))]; exact hw1_aY
      have hw2_aU : w2 aU = some (.inl (G.2.1.1, 4096, .inl ux)) := by rw [ew2, va_up_ne _ _ (wne hw1_aU hw1_y (by simp))]; exact hw1_aU
      have hw2_aV : w2 aV = some (.inl (G.2.1.1, 4096, .inl uy)) := by rw [ew2, va_up_ne _ _ (wne hw1_aV hw1_y (by simp))]; exact hw1_aV
      have hw2_aR : w2 aR = some (.inl (G.2.1.1, 4096, .inl rf)) := by rw [ew2, va_up_ne _ _ (wne hw1_aR hw1_y (by simp))]; exact hw1_aR
      have hw2_y : w2 y = some (.inr (3, [.int 0, .ref aT, .ref aX, .ref aY, .ref aU, .ref aV, .int 0, .ref aR])) := by rw [ew2]; exact va_up_self _ _ _
      refine lv_iconst (v := 0) hx hb d_M_find_37 (by decide) ?_
      refine lv_istore (lv' := [(6, .int 0), (0, .ref y), (1, .int k), (2, .int q.2.1), (3, .int q.2.2.1), (4, .int q.2.2.2.1), (5, .int q.2.2.2.2)]) hx hb d_M_find_38 hl (by decide) rfl (fun ls hl => ?_)
      have hK1 : Kp w w2 [y, aT, aX, aY, aU, aV, aR] := by rw [ew2, ew1]; exact (Kp.up (Or.inl (by simp))).ups (Or.inl (by simp))
      have hM1 : MAt G w2 y aT aX aY aU aV aR 0 th lx ly ux uy 0 rf := ⟨hw2_y, hw2_aT, hw2_aX, hw2_aY, hw2_aU, hw2_aV, hw2_aR, hDi⟩
      have loop : ∀ (u j : Nat), j + u = 4096 → ∀ (w9 : World) (acc : List Int32) (rf9 : Nat → Int32) (H : Heap) (locs : List Loc), Hw G w9 H → va_S (gA G) s.heap H locs → MAt G w9 y aT aX aY aU aV aR 0 th lx ly ux uy acc.length rf9 → Kp w w9 [y, aT, aX, aY, aU, aV, aR] → acc.length ≤ j → (∀ (i : Nat) (h : i < acc.length), rf9 i = acc[i]) → acc ++ fnd k q (bl th lx ly ux uy j u) = (fnd k q (bl th lx ly ux uy 0 4096)) → ∀ ls : Array Slot, lv_has ls 8 [(0, .ref y), (1, .int k), (2, .int q.2.1), (3, .int q.2.2.1), (4, .int q.2.2.2.1), (5, .int q.2.2.2.2), (6, .int (nI j))] → W p l e (rmK 4 0 0) s m [.ref y, .int k, .int q.2.1, .int q.2.2.1, .int q.2.2.2.1, .int q.2.2.2.2].toArray below meth c H locs 0 0 (MQ below (va_Qi (fun r w1 => r = nI (fnd k q (bl th lx ly ux uy 0 4096)).length ∧ ∃ rf1 : Nat → Int32, (∀ (i : Nat) (h : i < (fnd k q (bl th lx ly ux uy 0 4096)).length), rf1 i = (fnd k q (bl th lx ly ux uy 0 4096))[i]) ∧ MDo G w w1 y aT aX aY aU aV aR 0 th lx ly ux uy ((fnd k q (bl th lx ly ux uy 0 4096)).length) rf1) (Wo G) (gA G)) [.ref y, .int k, .int q.2.1, .int q.2.2.1, .int q.2.2.2.1, .int q.2.2.2.2].toArray s 0 0 (gA G)) (F0 m 40 ls []) := by
        intro u
        induction u with
        | zero =>
          intro j hj w9 acc rf9 H locs hH hS hM9 hK9 hac hrf hfo ls hl
          obtain ⟨hY9, hT9, hX9, hYy9, hU99, hV9, hR9, -⟩ := id hM9
          refine lv_iload hx hb d_M_find_40 (lv_at hl 6 rfl) ?_
          refine lv_sipush (v := 4096) hx hb d_M_find_42 (by decide) ?_
          refine lv_icmp_ge (tgt := 157) hx hb d_M_find_45 (by decide) (fun c_45 => ?_) (fun c_45 => ?_)
          · have hfin : acc = (fnd k q (bl th lx ly ux uy 0 4096)) := by rw [← hfo, bl, fnd, List.append_nil]
            refine lv_aload_n hx hb d_M_find_157 rfl (lv_at hl 0 rfl) ?_
            refine gf_M_55 C0 hH hY9 rfl d_M_find_158 ?_
            refine W.widen (k := 0) (n := 0) (by omega) (by omega) ?_
            exact W.iret hx hb hr (fun t ht hW => ⟨⟨(nI acc.length), w9, rfl, ⟨by rw [hfin], rf9, by rw [← hfin]; exact hrf, by rw [← hfin]; exact ⟨hM9, hK9⟩⟩, Wo.at C0.ev hH hS ht hW⟩, hS.F ht⟩) hS.2.2 d_M_find_161 (hlocks := C0.2.2.2.2.2.2)
          · exact absurd (show nI 4096 ≤ nI j from nI_le (by omega) (by omega)) c_45
        | succ u ih =>
          intro j hj w9 acc rf9 H locs hH hS hM9 hK9 hac hrf hfo ls hl
          obtain ⟨hY9, hT9, hX9, hYy9, hU99, hV9, hR9, -⟩ := id hM9
          refine lv_iload hx hb d_M_find_40 (lv_at hl 6 rfl) ?_
          refine lv_sipush (v := 4096) hx hb d_M_find_42 (by decide) ?_
          refine lv_icmp_ge (tgt := 157) hx hb d_M_find_45 (by decide) (fun c_45 => ?_) (fun c_45 => ?_)
          · exact absurd c_45 (Int32.not_le.mpr (show nI j < nI 4096 from nI_lt (by omega) (by omega)))
          · refine lv_aload_n hx hb d_M_find_48 rfl (lv_at hl 0 rfl) ?_
            refine gf_M_7 C0 hH hY9 rfl d_M_find_49 ?_
            refine lv_iload hx hb d_M_find_52 (lv_at hl 6 rfl) ?_
            refine hd_zald hx hb C0.hK hH 2 hT9 rfl (vp_in_nI (by omega) (by omega)) d_M_find_54 ?_
            rw [nI_clamp (by omega)]
            refine lv_if_eq (tgt := 122) hx hb d_M_find_55 (by decide) (fun c_55 => ?_) (fun c_55 => ?_)
            · refine lv_iconst (v := 0) hx hb d_M_find_122 (by decide) ?_
              refine lv_istore (lv' := [(7, .int 0), (0, .ref y), (1, .int k), (2, .int q.2.1), (3, .int q.2.2.1), (4, .int q.2.2.2.1), (5, .int q.2.2.2.2), (6, .int (nI j))]) hx hb d_M_find_123 hl (by decide) rfl (fun ls hl => ?_)
              refine lv_iload hx hb d_M_find_125 (lv_at hl 0 rfl) ?_
              refine lv_if_eq (tgt := 151) hx hb d_M_find_127 (by decide) (fun c_127 => ?_) (fun c_127 => ?_)
              · obtain ⟨y_1, ey_1⟩ : ∃ z : Int32, z = (nI j) + 1 := ⟨_, rfl⟩
                refine lv_iinc (v := y_1) (lv' := [(6, .int y_1), (7, .int 0), (0, .ref y), (1, .int k), (2, .int q.2.1), (3, .int q.2.2.1), (4, .int q.2.2.2.1), (5, .int q.2.2.2.2)]) hx hb d_M_find_151 hl (k := 7) rfl (by rw [ey_1]; rfl) (by decide) rfl (fun ls hl => ?_)
                refine lv_goto (tgt := 40) hx hb d_M_find_154 (by decide) ?_
                rw [show y_1 = nI (j + 1) from by rw [ey_1]; exact nI_1 j] at hl
                exact ih (j + 1) (by omega) w9 acc rf9 H locs hH hS hM9 hK9 (by omega) hrf (by rw [← hfo, bl, if_pos c_55]) ls (lv_sub hl [2, 3, 4, 5, 6, 7, 0] rfl)
              · exact absurd rfl c_127
            · refine lv_iload_n hx hb d_M_find_58 rfl (lv_at hl 1 rfl) ?_
              refine lv_if_ne (tgt := 80) hx hb d_M_find_59 (by decide) (fun c_59 => ?_) (fun c_59 => ?_)
              · refine lv_iload_n hx hb d_M_find_80 rfl (lv_at hl 1 rfl) ?_
                refine lv_iconst (v := 1) hx hb d_M_find_81 (by decide) ?_
                refine lv_icmp_ne (tgt := 103) hx hb d_M_find_82 (by decide) (fun c_82 => ?_) (fun c_82 => ?_)
                · refine lv_aload_n hx hb d_M_find_103 rfl (lv_at hl 0 rfl) ?_
                  refine lv_iload hx hb d_M_find_104 (lv_at hl 6 rfl) ?_
                  refine lv_iload_n hx hb d_M_find_106 rfl (lv_at hl 2 rfl) ?_
                  refine lv_iload_n hx hb d_M_find_107 rfl (lv_at hl 3 rfl) ?_
                  refine lv_iload hx hb d_M_find_108 (lv_at hl 4 rfl) ?_
                  refine lv_iload hx hb d_M_find_110 (lv_at hl 5 rfl) ?_
                  refine pu_v (runV C0 (k_M_has l G w9 hM9 j (by omega) q) (cs_M_65 C0 ⟨Nat.le_of_ble_eq_true rfl, Nat.le_of_ble_eq_true rfl⟩) hH hS (hd_recv C0.hK hH rfl hY9) rfl hl.1 rfl (lv_room (Nat.le_of_ble_eq_true rfl)) d_M_find_112 ⟨by show _ ≤ 0; omega, by show _ ≤ 0; omega⟩) ?_
                  refine lv_if_eq (tgt := 122) hx hb d_M_find_115 (by decide) (fun c_115 => ?_) (fun c_115 => ?_)
                  · have hft : b01 (fitsP k (mb lx ly ux uy j) q) = 0 := by rw [fitsP2 c_59 c_82]; exact c_115
                    refine lv_iconst (v := 0) hx hb d_M_find_122 (by decide) ?_
                    refine lv_istore (lv' := [(7, .int 0), (0, .ref y), (1, .int k), (2, .int q.2.1), (3, .int q.2.2.1), (4, .int q.2.2.2.1), (5, .int q.2.2.2.2), (6, .int (nI j))]) hx hb d_M_find_123 hl (by decide) rfl (fun ls hl => ?_)
                    refine lv_iload hx hb d_M_find_125 (lv_at hl 0 rfl) ?_
                    refine lv_if_eq (tgt := 151) hx hb d_M_find_127 (by decide) (fun c_127 => ?_) (fun c_127 => ?_)
                    · obtain ⟨y_2, ey_2⟩ : ∃ z : Int32, z = (nI j) + 1 := ⟨_, rfl⟩
                      refine lv_iinc (v := y_2) (lv' := [(6, .int y_2), (7, .int 0), (0, .ref y), (1, .int k), (2, .int q.2.1), (3, .int q.2.2.1), (4, .int q.2.2.2.1), (5, .int q.2.2.2.2)]) hx hb d_M_find_151 hl (k := 7) rfl (by rw [ey_2]; rfl) (by decide) rfl (fun ls hl => ?_)
                      refine lv_goto (tgt := 40) hx hb d_M_find_154 (by decide) ?_
                      rw [show y_2 = nI (j + 1) from by rw [ey_2]; exact nI_1 j] at hl
                      exact ih (j + 1) (by omega) w9 acc rf9 H locs hH hS hM9 hK9 (by omega) hrf (by rw [← hfo, bl, if_neg c_55, fnd, if_pos hft]) ls (lv_sub hl [2, 3, 4, 5, 6, 7, 0] rfl)
                    · exact absurd rfl c_127
                  · have hft : ¬ b01 (fitsP k (mb lx ly ux uy j) q) = 0 := by rw [fitsP2 c_59 c_82]; exact c_115
                    refine lv_iconst (v := 1) hx hb d_M_find_118 (by decide) ?_
                    refine lv_goto (tgt := 123) hx hb d_M_find_119 (by decide) ?_
                    refine lv_istore (lv' := [(7, .int 1), (0, .ref y), (1, .int k), (2, .int q.2.1), (3, .int q.2.2.1), (4, .int q.2.2.2.1), (5, .int q.2.2.2.2), (6, .int (nI j))]) hx hb d_M_find_123 hl (by decide) rfl (fun ls hl => ?_)
                    refine lv_iload hx hb d_M_find_125 (lv_at hl 0 rfl) ?_
                    refine lv_if_eq (tgt := 151) hx hb d_M_find_127 (by decide) (fun c_127 => ?_) (fun c_127 => ?_)
                    · exact absurd c_127 (by decide)
                    · refine lv_aload_n hx hb d_M_find_130 rfl (lv_at hl 1 rfl) ?_
                      refine gf_M_26 C0 hH hY9 rfl d_M_find_131 ?_
                      refine lv_aload_n hx hb d_M_find_134 rfl (lv_at hl 1 rfl) ?_
                      refine gf_M_55 C0 hH hY9 rfl d_M_find_135 ?_
                      refine lv_iload hx hb d_M_find_138 (lv_at hl 7 rfl) ?_
                      refine hd_iast hx hb C0.hK hH hS 0 hR9 rfl (vp_in_nI (by omega) (by omega)) d_M_find_140 (fun H locs hH hS => ?_)
                      rw [nI_clamp (by omega)] at hH
                      obtain ⟨w3, ew3⟩ : ∃ z : World, z = va_up w9 aR (some (.inl (G.2.1.1, 4096, .inl (upd rf9 acc.length (nI j))))) := ⟨_, rfl⟩
                      have hH : Hw G w3 H := by rw [ew3]; exact hH
                      have hw3_y : w3 y = some (.inr (3, [.int 0, .ref aT, .ref aX, .ref aY, .ref aU, .ref aV, .int (nI acc.length), .ref aR])) := by rw [ew3, va_up_ne _ _ (wne hY9 hR9 (by simp))]; exact hY9
                      have hw3_aT : w3 aT = some (.inl (G.2.1.2.2.1, 4096, .inl th)) := by rw [ew3, va_up_ne _ _ (n_TR)]; exact hT9
                      have hw3_aX : w3 aX = some (.inl (G.2.1.1, 4096, .inl lx)) := by rw [ew3, va_up_ne _ _ (n_XR)]; exact hX9
                      have hw3_aY : w3 aY = some (.inl (G.2.1.1, 4096, .inl ly)) := by rw [ew3, va_up_ne _ _ (n_YR)]; exact hYy9
                      have hw3_aU : w3 aU = some (.inl (G.2.1.1, 4096, .inl ux)) := by rw [ew3, va_up_ne _ _ (n_UR)]; exact hU99
                      have hw3_aV : w3 aV = some (.inl (G.2.1.1, 4096, .inl uy)) := by rw [ew3, va_up_ne _ _ (n_VR)]; exact hV9
                      have hw3_aR : w3 aR = some (.inl (G.2.1.1, 4096, .inl (upd rf9 acc.length (nI j)))) := by rw [ew3]; exact va_up_self _ _ _
                      refine lv_aload_n hx hb d_M_find_141 rfl (lv_at hl 1 rfl) ?_
                      refine lv_dup hx hb d_M_find_142 rfl ?_
                      refine gf_M_55 C0 hH hw3_y rfl d_M_find_143 ?_
                      refine lv_iconst (v := 1) hx hb d_M_find_146 (by decide) ?_
                      refine lv_iadd hx hb d_M_find_147 ?_
                      rw [show ((nI acc.length) + 1) = nI (acc.length + 1) from nI_1 _]
                      refine pf_M_55 C0 hH hS hw3_y rfl rfl (Nat.le_of_ble_eq_true rfl) d_M_find_148 (fun H locs hH hS => ?_)
                      obtain ⟨w4, ew4⟩ : ∃ z : World, z = va_up w3 y (some (.inr (3, [.int 0, .ref aT, .ref aX, .ref aY, .ref aU, .ref aV, .int (nI (acc.length + 1)), .ref aR]))) := ⟨_, rfl⟩
                      have hH : Hw G w4 H := by rw [ew4]; exact hH
                      have hw4_aT : w4 aT = some (.inl (G.2.1.2.2.1, 4096, .inl th)) := by rw [ew4, va_up_ne _ _ (wne hw3_aT hw3_y (by simp))]; exact hw3_aT
                      have hw4_aX : w4 aX = some (.inl (G.2.1.1, 4096, .inl lx)) := by rw [ew4, va_up_ne _ _ (wne hw3_aX hw3_y (by simp))]; exact hw3_aX
                      have hw4_aY : w4 aY = some (.inl (G.2.1.1, 4096, .inl ly)) := by rw [ew4, va_up_ne _ _ (wne hw3_aY hw3_y (by simp))]; exact hw3_aY
                      have hw4_aU : w4 aU = some (.inl (G.2.1.1, 4096, .inl ux)) := by rw [ew4, va_up_ne _ _ (wne hw3_aU hw3_y (by simp))]; exact hw3_aU
                      have hw4_aV : w4 aV = some (.inl (G.2.1.1, 4096, .inl uy)) := by rw [ew4, va_up_ne _ _ (wne hw3_aV hw3_y (by simp))]; exact hw3_aV
                      have hw4_aR : w4 aR = some (.inl (G.2.1.1, 4096, .inl (upd rf9 acc.length (nI j)))) := by rw [ew4, va_up_ne _ _ (wne hw3_aR hw3_y (by simp))]; exact hw3_aR
                      have hw4_y : w4 y = some (.inr (3, [.int 0, .ref aT, .ref aX, .ref aY, .ref aU, .ref aV, .int (nI (acc.length + 1)), .ref aR])) := by rw [ew4]; exact va_up_self _ _ _
                      obtain ⟨y_3, ey_3⟩ : ∃ z : Int32, z = (nI j) + 1 := ⟨_, rfl⟩
                      refine lv_iinc (v := y_3) (lv' := [(6, .int y_3), (7, .int 1), (0, .ref y), (1, .int k), (2, .int q.2.1), (3, .int q.2.2.1), (4, .int q.2.2.2.1), (5, .int q.2.2.2.2)]) hx hb d_M_find_151 hl (k := 7) rfl (by rw [ey_3]; rfl) (by decide) rfl (fun ls hl => ?_)
                      refine lv_goto (tgt := 40) hx hb d_M_find_154 (by decide) ?_
                      rw [show y_3 = nI (j + 1) from by rw [ey_3]; exact nI_1 j] at hl
                      refine ih (j + 1) (by omega) w4 (acc ++ [nI j]) _ H locs hH hS (by rw [List.length_append]; exact ⟨hw4_y, hw4_aT, hw4_aX, hw4_aY, hw4_aU, hw4_aV, hw4_aR, hDi⟩) (by rw [ew4, ew3]; exact (hK9.ups (Or.inl (by simp))).ups (Or.inl (by simp))) (by rw [List.length_append]; exact Nat.succ_le_succ hac) (fun i hi => ?_) (by rw [← hfo, bl, if_neg c_55, fnd, if_neg hft, List.append_assoc]; rfl) ls (lv_sub hl [2, 3, 4, 5, 6, 7, 0] rfl)
                      rw [List.length_append] at hi
                      by_cases g : i < acc.length
                      · rw [List.getElem_append_left g, upd, if_neg (Nat.ne_of_lt g)]; exact hrf i g
                      · have : i = acc.length := by have : [nI j].length = 1 := rfl; omega
                        subst this
                        rw [upd, if_pos rfl]; simp
                · refine lv_aload_n hx hb d_M_find_85 rfl (lv_at hl 0 rfl) ?_
                  refine lv_iload hx hb d_M_find_86 (lv_at hl 6 rfl) ?_
                  refine lv_iload_n hx hb d_M_find_88 rfl (lv_at hl 2 rfl) ?_
                  refine lv_iload_n hx hb d_M_find_89 rfl (lv_at hl 3 rfl) ?_
                  refine lv_iload hx hb d_M_find_90 (lv_at hl 4 rfl) ?_
                  refine lv_iload hx hb d_M_find_92 (lv_at hl 5 rfl) ?_
                  refine pu_v (runV C0 (k_M_lies l G w9 hM9 j (by omega) q) (cs_M_62 C0 ⟨Nat.le_of_ble_eq_true rfl, Nat.le_of_ble_eq_true rfl⟩) hH hS (hd_recv C0.hK hH rfl hY9) rfl hl.1 rfl (lv_room (Nat.le_of_ble_eq_true rfl)) d_M_find_94 ⟨by show _ ≤ 0; omega, by show _ ≤ 0; omega⟩) ?_
                  refine lv_if_eq (tgt := 122) hx hb d_M_find_97 (by decide) (fun c_97 => ?_) (fun c_97 => ?_)
                  · have hft : b01 (fitsP k (mb lx ly ux uy j) q) = 0 := by rw [show k = 1 from c_82, fitsP1]; exact c_97
                    refine lv_iconst (v := 0) hx hb d_M_find_122 (by decide) ?_
                    refine lv_istore (lv' := [(7, .int 0), (0, .ref y), (1, .int k), (2, .int q.2.1), (3, .int q.2.2.1), (4, .int q.2.2.2.1), (5, .int q.2.2.2.2), (6, .int (nI j))]) hx hb d_M_find_123 hl (by decide) rfl (fun ls hl => ?_)
                    refine lv_iload hx hb d_M_find_125 (lv_at hl 0 rfl) ?_
                    refine lv_if_eq (tgt := 151) hx hb d_M_find_127 (by decide) (fun c_127 => ?_) (fun c_127 => ?_)
                    · obtain ⟨y_4, ey_4⟩ : ∃ z : Int32, z = (nI j) + 1 := ⟨_, rfl⟩
                      refine lv_iinc (v := y_4) (lv' := [(6, .int y_4), (7, .int 0), (0, .ref y), (1, .int k), (2, .int q.2.1), (3, .int q.2.2.1), (4, .int q.2.2.2.1), (5, .int q.2.2.2.2)]) hx hb d_M_find_151 hl (k := 7) rfl (by rw [ey_4]; rfl) (by decide) rfl (fun ls hl => ?_)
                      refine lv_goto (tgt := 40) hx hb d_M_find_154 (by decide) ?_
                      rw [show y_4 = nI (j + 1) from by rw [ey_4]; exact nI_1 j] at hl
                      exact ih (j + 1) (by omega) w9 acc rf9 H locs hH hS hM9 hK9 (by omega) hrf (by rw [← hfo, bl, if_neg c_55, fnd, if_pos hft]) ls (lv_sub hl [2, 3, 4, 5, 6, 7, 0] rfl)
                    · exact absurd rfl c_127
                  · refine lv_goto (tgt := 118) hx hb d_M_find_100 (by decide) ?_
                    have hft : ¬ b01 (fitsP k (mb lx ly ux uy j) q) = 0 := by rw [show k = 1 from c_82, fitsP1]; exact c_97
                    refine lv_iconst (v := 1) hx hb d_M_find_118 (by decide) ?_
                    refine lv_goto (tgt := 123) hx hb d_M_find_119 (by decide) ?_
                    refine lv_istore (lv' := [(7, .int 1), (0, .ref y), (1, .int k), (2, .int q.2.1), (3, .int q.2.2.1), (4, .int q.2.2.2.1), (5, .int q.2.2.2.2), (6, .int (nI j))]) hx hb d_M_find_123 hl (by decide) rfl (fun ls hl => ?_)
                    refine lv_iload hx hb d_M_find_125 (lv_at hl 0 rfl) ?_
                    refine lv_if_eq (tgt := 151) hx hb d_M_find_127 (by decide) (fun c_127 => ?_) (fun c_127 => ?_)
                    · exact absurd c_127 (by decide)
                    · refine lv_aload_n hx hb d_M_find_130 rfl (lv_at hl 1 rfl) ?_
                      refine gf_M_26 C0 hH hY9 rfl d_M_find_131 ?_
                      refine lv_aload_n hx hb d_M_find_134 rfl (lv_at hl 1 rfl) ?_
                      refine gf_M_55 C0 hH hY9 rfl d_M_find_135 ?_
                      refine lv_iload hx hb d_M_find_138 (lv_at hl 7 rfl) ?_
                      refine hd_iast hx hb C0.hK hH hS 0 hR9 rfl (vp_in_nI (by omega) (by omega)) d_M_find_140 (fun H locs hH hS => ?_)
                      rw [nI_clamp (by omega)] at hH
                      obtain ⟨w5, ew5⟩ : ∃ z : World, z = va_up w9 aR (some (.inl (G.2.1.1, 4096, .inl (upd rf9 acc.length (nI j))))) := ⟨_, rfl⟩
                      have hH : Hw G w5 H := by rw [ew5]; exact hH
                      have hw5_y : w5 y = some (.inr (3, [.int 0, .ref aT, .ref aX, .ref aY, .ref aU, .ref aV, .int (nI acc.length), .ref aR])) := by rw [ew5, va_up_ne _ _ (wne hY9 hR9 (by simp))]; exact hY9
                      have hw5_aT : w5 aT = some (.inl (G.2.1.2.2.1, 4096, .inl th)) := by rw [ew5, va_up_ne _ _ (n_TR)]; exact hT9
                      have hw5_aX : w5 aX = some (.inl (G.2.1.1, 4096, .inl lx)) := by rw [ew5, va_up_ne _ _ (n_XR)]; exact hX9
                      have hw5_aY : w5 aY = some (.inl (G.2.1.1, 4096, .inl ly)) := by rw [ew5, va_up_ne _ _ (n_YR)]; exact hYy9
                      have hw5_aU : w5 aU = some (.inl (G.2.1.1, 4096, .inl ux)) := by rw [ew5, va_up_ne _ _ (n_UR)]; exact hU99
                      have hw5_aV : w5 aV = some (.inl (G.2.1.1, 4096, .inl uy)) := by rw [ew5, va_up_ne _ _ (n_VR)]; exact hV9
                      have hw5_aR : w5 aR = some (.inl (G.2.1.1, 4096, .inl (upd rf9 acc.length (nI j)))) := by rw [ew5]; exact va_up_self _ _ _
                      refine lv_aload_n hx hb d_M_find_141 rfl (lv_at hl 1 rfl) ?_
                      refine lv_dup hx hb d_M_find_142 rfl ?_
                      refine gf_M_55 C0 hH hw5_y rfl d_M_find_143 ?_
                      refine lv_iconst (v := 1) hx hb d_M_find_146 (by decide) ?_
                      refine lv_iadd hx hb d_M_find_147 ?_
                      rw [show ((nI acc.length) + 1) = nI (acc.length + 1) from nI_1 _]
                      refine pf_M_55 C0 hH hS hw5_y rfl rfl (Nat.le_of_ble_eq_true rfl) d_M_find_148 (fun H locs hH hS => ?_)
                      obtain ⟨w6, ew6⟩ : ∃ z : World, z = va_up w5 y (some (.inr (3, [.int 0, .ref aT, .ref aX, .ref aY, .ref aU, .ref aV, .int (nI (acc.length + 1)), .ref aR]))) := ⟨_, rfl⟩
                      have hH : Hw G w6 H := by rw [ew6]; exact hH
                      have hw6_aT : w6 aT = some (.inl (G.2.1.2.2.1, 4096, .inl th)) := by rw [ew6, va_up_ne _ _ (wne hw5_aT hw5_y (by simp))]; exact hw5_aT
                      have hw6_aX : w6 aX = some (.inl (G.2.1.1, 4096, .inl lx)) := by rw [ew6, va_up_ne _ _ (wne hw5_aX hw5_y (by simp))]; exact hw5_aX
                      have hw6_aY : w6 aY = some (.inl (G.2.1.1, 4096, .inl ly)) := by rw [ew6, va_up_ne _ _ (wne hw5_aY hw5_y (by simp))]; exact hw5_aY
                      have hw6_aU : w6 aU = some (.inl (G.2.1.1, 4096, .inl ux)) := by rw [ew6, va_up_ne _ _ (wne hw5_aU hw5_y (by simp))]; exact hw5_aU
                      have hw6_aV : w6 aV = some (.inl (G.2.1.1, 4096, .inl uy)) := by rw [ew6, va_up_ne _ _ (wne hw5_aV hw5_y (by simp))]; exact hw5_aV
                      have hw6_aR : w6 aR = some (.inl (G.2.1.1, 4096, .inl (upd rf9 acc.length (nI j)))) := by rw [ew6, va_up_ne _ _ (wne hw5_aR hw5_y (by simp))]; exact hw5_aR
                      have hw6_y : w6 y = some (.inr (3, [.int 0, .ref aT, .ref aX, .ref aY, .ref aU, .ref aV, .int (nI (acc.length + 1)), .ref aR])) := by rw [ew6]; exact va_up_self _ _ _
                      obtain ⟨y_5, ey_5⟩ : ∃ z : Int32, z = (nI j) + 1 := ⟨_, rfl⟩
                      refine lv_iinc (v := y_5) (lv' := [(6, .int y_5), (7, .int 1), (0, .ref y), (1, .int k), (2, .int q.2.1), (3, .int q.2.2.1), (4, .int q.2.2.2.1), (5, .int q.2.2.2.2)]) hx hb d_M_find_151 hl (k := 7) rfl (by rw [ey_5]; rfl) (by decide) rfl (fun ls hl => ?_)
                      refine lv_goto (tgt := 40) hx hb d_M_find_154 (by decide) ?_
                      rw [show y_5 = nI (j + 1) from by rw [ey_5]; exact nI_1 j] at hl
                      refine ih (j + 1) (by omega) w6 (acc ++ [nI j]) _ H locs hH hS (by rw [List.length_append]; exact ⟨hw6_y, hw6_aT, hw6_aX, hw6_aY, hw6_aU, hw6_aV, hw6_aR, hDi⟩) (by rw [ew6, ew5]; exact (hK9.ups (Or.inl (by simp))).ups (Or.inl (by simp))) (by rw [List.length_append]; exact Nat.succ_le_succ hac) (fun i hi => ?_) (by rw [← hfo, bl, if_neg c_55, fnd, if_neg hft, List.append_assoc]; rfl) ls (lv_sub hl [2, 3, 4, 5, 6, 7, 0] rfl)
                      rw [List.length_append] at hi
                      by_cases g : i < acc.length
                      · rw [List.getElem_append_left g, upd, if_neg (Nat.ne_of_lt g)]; exact hrf i g
                      · have : i = acc.length := by have : [nI j].length = 1 := rfl; omega
                        subst this
                        rw [upd, if_pos rfl]; simp
              · refine lv_aload_n hx hb d_M_find_62 rfl (lv_at hl 0 rfl) ?_
                refine lv_iload hx hb d_M_find_63 (lv_at hl 6 rfl) ?_
                refine lv_iload_n hx hb d_M_find_65 rfl (lv_at hl 2 rfl) ?_
                refine lv_iload_n hx hb d_M_find_66 rfl (lv_at hl 3 rfl) ?_
                refine lv_iload hx hb d_M_find_67 (lv_at hl 4 rfl) ?_
                refine lv_iload hx hb d_M_find_69 (lv_at hl 5 rfl) ?_
                refine pu_v (runV C0 (k_M_meets l G w9 hM9 j (by omega) q) (cs_M_58 C0 ⟨Nat.le_of_ble_eq_true rfl, Nat.le_of_ble_eq_true rfl⟩) hH hS (hd_recv C0.hK hH rfl hY9) rfl hl.1 rfl (lv_room (Nat.le_of_ble_eq_true rfl)) d_M_find_71 ⟨by show _ ≤ 0; omega, by show _ ≤ 0; omega⟩) ?_
                refine lv_if_eq (tgt := 122) hx hb d_M_find_74 (by decide) (fun c_74 => ?_) (fun c_74 => ?_)
                · have hft : b01 (fitsP k (mb lx ly ux uy j) q) = 0 := by rw [show k = 0 from c_59, fitsP0]; exact c_74
                  refine lv_iconst (v := 0) hx hb d_M_find_122 (by decide) ?_
                  refine lv_istore (lv' := [(7, .int 0), (0, .ref y), (1, .int k), (2, .int q.2.1), (3, .int q.2.2.1), (4, .int q.2.2.2.1), (5, .int q.2.2.2.2), (6, .int (nI j))]) hx hb d_M_find_123 hl (by decide) rfl (fun ls hl => ?_)
                  refine lv_iload hx hb d_M_find_125 (lv_at hl 0 rfl) ?_
                  refine lv_if_eq (tgt := 151) hx hb d_M_find_127 (by decide) (fun c_127 => ?_) (fun c_127 => ?_)
                  · obtain ⟨y_6, ey_6⟩ : ∃ z : Int32, z = (nI j) + 1 := ⟨_, rfl⟩
                    refine lv_iinc (v := y_6) (lv' := [(6, .int y_6), (7, .int 0), (0, .ref y), (1, .int k), (2, .int q.2.1), (3, .int q.2.2.1), (4, .int q.2.2.2.1), (5, .int q.2.2.2.2)]) hx hb d_M_find_151 hl (k := 7) rfl (by rw [ey_6]; rfl) (by decide) rfl (fun ls hl => ?_)
                    refine lv_goto (tgt := 40) hx hb d_M_find_154 (by decide) ?_
                    rw [show y_6 = nI (j + 1) from by rw [ey_6]; exact nI_1 j] at hl
                    exact ih (j + 1) (by omega) w9 acc rf9 H locs hH hS hM9 hK9 (by omega) hrf (by rw [← hfo, bl, if_neg c_55, fnd, if_pos hft]) ls (lv_sub hl [2, 3, 4, 5, 6, 7, 0] rfl)
                  · exact absurd rfl c_127
                · refine lv_goto (tgt := 118) hx hb d_M_find_77 (by decide) ?_
                  have hft : ¬ b01 (fitsP k (mb lx ly ux uy j) q) = 0 := by rw [show k = 0 from c_59, fitsP0]; exact c_74
                  refine lv_iconst (v := 1) hx hb d_M_find_118 (by decide) ?_
                  refine lv_goto (tgt := 123) hx hb d_M_find_119 (by decide) ?_
                  refine lv_istore (lv' := [(7, .int 1), (0, .ref y), (1, .int k), (2, .int q.2.1), (3, .int q.2.2.1), (4, .int q.2.2.2.1), (5, .int q.2.2.2.2), (6, .int (nI j))]) hx hb d_M_find_123 hl (by decide) rfl (fun ls hl => ?_)
                  refine lv_iload hx hb d_M_find_125 (lv_at hl 0 rfl) ?_
                  refine lv_if_eq (tgt := 151) hx hb d_M_find_127 (by decide) (fun c_127 => ?_) (fun c_127 => ?_)
                  · exact absurd c_127 (by decide)
                  · refine lv_aload_n hx hb d_M_find_130 rfl (lv_at hl 1 rfl) ?_
                    refine gf_M_26 C0 hH hY9 rfl d_M_find_131 ?_
                    refine lv_aload_n hx hb d_M_find_134 rfl (lv_at hl 1 rfl) ?_
                    refine gf_M_55 C0 hH hY9 rfl d_M_find_135 ?_
                    refine lv_iload hx hb d_M_find_138 (lv_at hl 7 rfl) ?_
                    refine hd_iast hx hb C0.hK hH hS 0 hR9 rfl (vp_in_nI (by omega) (by omega)) d_M_find_140 (fun H locs hH hS => ?_)
                    rw [nI_clamp (by omega)] at hH
                    obtain ⟨w7, ew7⟩ : ∃ z : World, z = va_up w9 aR (some (.inl (G.2.1.1, 4096, .inl (upd rf9 acc.length (nI j))))) := ⟨_, rfl⟩
                    have hH : Hw G w7 H := by rw [ew7]; exact hH
                    have hw7_y : w7 y = some (.inr (3, [.int 0, .ref aT, .ref aX, .ref aY, .ref aU, .ref aV, .int (nI acc.length), .ref aR])) := by rw [ew7, va_up_ne _ _ (wne hY9 hR9 (by simp))]; exact hY9
                    have hw7_aT : w7 aT = some (.inl (G.2.1.2.2.1, 4096, .inl th)) := by rw [ew7, va_up_ne _ _ (n_TR)]; exact hT9
                    have hw7_aX : w7 aX = some (.inl (G.2.1.1, 4096, .inl lx)) := by rw [ew7, va_up_ne _ _ (n_XR)]; exact hX9
                    have hw7_aY : w7 aY = some (.inl (G.2.1.1, 4096, .inl ly)) := by rw [ew7, va_up_ne _ _ (n_YR)]; exact hYy9
                    have hw7_aU : w7 aU = some (.inl (G.2.1.1, 4096, .inl ux)) := by rw [ew7, va_up_ne _ _ (n_UR)]; exact hU99
                    have hw7_aV : w7 aV = some (.inl (G.2.1.1, 4096, .inl uy)) := by rw [ew7, va_up_ne _ _ (n_VR)]; exact hV9
                    have hw7_aR : w7 aR = some (.inl (G.2.1.1, 4096, .inl (upd rf9 acc.length (nI j)))) := by rw [ew7]; exact va_up_self _ _ _
                    refine lv_aload_n hx hb d_M_find_141 rfl (lv_at hl 1 rfl) ?_
                    refine lv_dup hx hb d_M_find_142 rfl ?_
                    refine gf_M_55 C0 hH hw7_y rfl d_M_find_143 ?_
                    refine lv_iconst (v := 1) hx hb d_M_find_146 (by decide) ?_
                    refine lv_iadd hx hb d_M_find_147 ?_
                    rw [show ((nI acc.length) + 1) = nI (acc.length + 1) from nI_1 _]
                    refine pf_M_55 C0 hH hS hw7_y rfl rfl (Nat.le_of_ble_eq_true rfl) d_M_find_148 (fun H locs hH hS => ?_)
                    obtain ⟨w8, ew8⟩ : ∃ z : World, z = va_up w7 y (some (.inr (3, [.int 0, .ref aT, .ref aX, .ref aY, .ref aU, .ref aV, .int (nI (acc.length + 1)), .ref aR]))) := ⟨_, rfl⟩
                    have hH : Hw G w8 H := by rw [ew8]; exact hH
                    have hw8_aT : w8 aT = some (.inl (G.2.1.2.2.1, 4096, .inl th)) := by rw [ew8, va_up_ne _ _ (wne hw7_aT hw7_y (by simp))]; exact hw7_aT
                    have hw8_aX : w8 aX = some (.inl (G.2.1.1, 4096, .inl lx)) := by rw [ew8, va_up_ne _ _ (wne hw7_aX hw7_y (by simp))]; exact hw7_aX
                    have hw8_aY : w8 aY = some (.inl (G.2.1.1, 4096, .inl ly)) := by rw [ew8, va_up_ne _ _ (wne hw7_aY hw7_y (by simp))]; exact hw7_aY
                    have hw8_aU : w8 aU = some (.inl (G.2.1.1, 4096, .inl ux)) := by rw [ew8, va_up_ne _ _ (wne hw7_aU hw7_y (by simp))]; exact hw7_aU
                    have hw8_aV : w8 aV = some (.inl (G.2.1.1, 4096, .inl uy)) := by rw [ew8, va_up_ne _ _ (wne hw7_aV hw7_y (by simp))]; exact hw7_aV
                    have hw8_aR : w8 aR = some (.inl (G.2.1.1, 4096, .inl (upd rf9 acc.length (nI j)))) := by rw [ew8, va_up_ne _ _ (wne hw7_aR hw7_y (by simp))]; exact hw7_aR
                    have hw8_y : w8 y = some (.inr (3, [.int 0, .ref aT, .ref aX, .ref aY, .ref aU, .ref aV, .int (nI (acc.length + 1)), .ref aR])) := by rw [ew8]; exact va_up_self _ _ _
                    obtain ⟨y_7, ey_7⟩ : ∃ z : Int32, z = (nI j) + 1 := ⟨_, rfl⟩
                    refine lv_iinc (v := y_7) (lv' := [(6, .int y_7), (7, .int 1), (0, .ref y), (1, .int k), (2, .int q.2.1), (3, .int q.2.2.1), (4, .int q.2.2.2.1), (5, .int q.2.2.2.2)]) hx hb d_M_find_151 hl (k := 7) rfl (by rw [ey_7]; rfl) (by decide) rfl (fun ls hl => ?_)
                    refine lv_goto (tgt := 40) hx hb d_M_find_154 (by decide) ?_
                    rw [show y_7 = nI (j + 1) from by rw [ey_7]; exact nI_1 j] at hl
                    refine ih (j + 1) (by omega) w8 (acc ++ [nI j]) _ H locs hH hS (by rw [List.length_append]; exact ⟨hw8_y, hw8_aT, hw8_aX, hw8_aY, hw8_aU, hw8_aV, hw8_aR, hDi⟩) (by rw [ew8, ew7]; exact (hK9.ups (Or.inl (by simp))).ups (Or.inl (by simp))) (by rw [List.length_append]; exact Nat.succ_le_succ hac) (fun i hi => ?_) (by rw [← hfo, bl, if_neg c_55, fnd, if_neg hft, List.append_assoc]; rfl) ls (lv_sub hl [2, 3, 4, 5, 6, 7, 0] rfl)
                    rw [List.length_append] at hi
                    by_cases g : i < acc.length
                    · rw [List.getElem_append_left g, upd, if_neg (Nat.ne_of_lt g)]; exact hrf i g
                    · have : i = acc.length := by have : [nI j].length = 1 := rfl; omega
                      subst this
                      rw [upd, if_pos rfl]; simp
      exact loop 4096 0 rfl w2 [] rf H locs hH hS hM1 hK1 (Nat.le_refl _) (fun i h => absurd h (Nat.not_lt_zero _)) rfl ls (lv_sub hl [1, 2, 3, 4, 5, 6, 0] rfl)
    · exact absurd ((b01_t hq9).symm.trans c_23) (by decide)

set_option maxHeartbeats 4000000 in
set_option maxRecDepth 100000 in
theorem k_M_find1 (l : Launch) (G : Gl) (w : World) {y aT aX aY aU aV aR sz : Nat} {tc : Int32} {th lx ly ux uy rf : Nat → Int32} (hM : MAt G w y aT aX aY aU aV aR tc th lx ly ux uy sz rf) (k : Int32) (q : Bx) (hk9 : ¬ (okF k ∧ okB q.2.1 q.2.2.1 q.2.2.2.1 q.2.2.2.2)) :
    GnI l y_M_find ws_M_find 4 0 0 G w [.ref y, .int k, .int q.2.1, .int q.2.2.1, .int q.2.2.2.1, .int q.2.2.2.2] (fun r w1 => r = 0 ∧ MDo G w w1 y aT aX aY aU aV aR 1 th lx ly ux uy sz rf) := by
  refine met_ent (by decide +kernel) (Nat.le_of_ble_eq_true rfl) (fun p e s m below meth c ls C0 hr hin hH hl => ?_)
  have hx := C0.1
  have hb := C0.2.1
  have hS : va_S (gA G) s.heap s.heap [] := va_S.rf
  have hA : ∀ q : Nat, s.heap.size ≤ q → gA G q := fun q h => Nat.le_trans C0.ev.2.2.2.2.2.2.2.2.2.2.2.2 h
  have hl : lv_has ls 8 [(0, .ref y), (1, .int k), (2, .int q.2.1), (3, .int q.2.2.1), (4, .int q.2.2.2.1), (5, .int q.2.2.2.2)] := hl
  obtain ⟨hY, hT, hX, hYy, hU9, hV, hR, hDi⟩ := id hM
  obtain ⟨n_TX, n_TY, n_TU, n_TV, n_TR, n_XY, n_XU, n_XV, n_XR, n_YU, n_YV, n_YR, n_UV, n_UR, n_VR⟩ := id hDi
  refine lv_aload_n hx hb d_M_find_0 rfl (lv_at hl 0 rfl) ?_
  refine lv_iconst (v := 0) hx hb d_M_find_1 (by decide) ?_
  refine pf_M_29 C0 hH hS hY rfl rfl (Nat.le_of_ble_eq_true rfl) d_M_find_2 (fun H locs hH hS => ?_)
  obtain ⟨w1, ew1⟩ : ∃ z : World, z = va_up w y (some (.inr (3, [.int 0, .ref aT, .ref aX, .ref aY, .ref aU, .ref aV, .int (nI sz), .ref aR]))) := ⟨_, rfl⟩
  have hH : Hw G w1 H := by rw [ew1]; exact hH
  have hw1_aT : w1 aT = some (.inl (G.2.1.2.2.1, 4096, .inl th)) := by rw [ew1, va_up_ne _ _ (wne hT hY (by simp))]; exact hT
  have hw1_aX : w1 aX = some (.inl (G.2.1.1, 4096, .inl lx)) := by rw [ew1, va_up_ne _ _ (wne hX hY (by simp))]; exact hX
  have hw1_aY : w1 aY = some (.inl (G.2.1.1, 4096, .inl ly)) := by rw [ew1, va_up_ne _ _ (wne hYy hY (by simp))]; exact hYy
  have hw1_aU : w1 aU = some (.inl (G.2.1.1, 4096, .inl ux)) := by rw [ew1, va_up_ne _ _ (wne hU9 hY (by simp))]; exact hU9
  have hw1_aV : w1 aV = some (.inl (G.2.1.1, 4096, .inl uy)) := by rw [ew1, va_up_ne _ _ (wne hV hY (by simp))]; exact hV
  have hw1_aR : w1 aR = some (.inl (G.2.1.1, 4096, .inl rf)) := by rw [ew1, va_up_ne _ _ (wne hR hY (by simp))]; exact hR
  have hw1_y : w1 y = some (.inr (3, [.int 0, .ref aT, .ref aX, .ref aY, .ref aU, .ref aV, .int (nI sz), .ref aR])) := by rw [ew1]; exact va_up_self _ _ _
  refine lv_iload_n hx hb d_M_find_5 rfl (lv_at hl 1 rfl) ?_
  refine lv_iconst (v := 0) hx hb d_M_find_6 (by decide) ?_
  refine lv_iconst (v := 2) hx hb d_M_find_7 (by decide) ?_
  refine pu_v (runS C0 (k_M_within l G w1 k 0 2) (cs_M_35 C0 ⟨Nat.le_of_ble_eq_true rfl, Nat.le_of_ble_eq_true rfl⟩) hH hS rfl hl.1 rfl (lv_room (Nat.le_of_ble_eq_true rfl)) d_M_find_8 ⟨by show _ ≤ 0; omega, by show _ ≤ 0; omega⟩) ?_
  refine lv_if_eq (tgt := 26) hx hb d_M_find_11 (by decide) (fun c_11 => ?_) (fun c_11 => ?_)
  · refine lv_aload_n hx hb d_M_find_26 rfl (lv_at hl 0 rfl) ?_
    refine lv_iconst (v := 1) hx hb d_M_find_27 (by decide) ?_
    refine gn_i (runV C0 (k_M_fail l G w1 1 hw1_y) (cs_M_43 C0 ⟨Nat.le_of_ble_eq_true rfl, Nat.le_of_ble_eq_true rfl⟩) hH hS (hd_recv C0.hK hH rfl hw1_y) rfl hl.1 rfl (lv_room (Nat.le_of_ble_eq_true rfl)) d_M_find_28 ⟨by show _ ≤ 0; omega, by show _ ≤ 0; omega⟩) hS (fun r2 w2 H locs hp2 hH hS => ?_)
    obtain ⟨rfl, ew2⟩ := hp2
    have hF9 := (show MAt G w1 y aT aX aY aU aV aR 0 th lx ly ux uy sz rf from ⟨hw1_y, hw1_aT, hw1_aX, hw1_aY, hw1_aU, hw1_aV, hw1_aR, hDi⟩).tc ew2
    have hK9 : Kp w w2 [y, aT, aX, aY, aU, aV, aR] := by rw [ew2, ew1]; exact (Kp.up (Or.inl (by simp))).ups (Or.inl (by simp))
    refine W.widen (k := 0) (n := 0) (by omega) (by omega) ?_
    exact W.iret hx hb hr (fun t ht hW => ⟨⟨0, w2, rfl, ⟨rfl, hF9, hK9⟩, Wo.at C0.ev hH hS ht hW⟩, hS.F ht⟩) hS.2.2 d_M_find_31 (hlocks := C0.2.2.2.2.2.2)
  · refine lv_iload_n hx hb d_M_find_14 rfl (lv_at hl 2 rfl) ?_
    refine lv_iload_n hx hb d_M_find_15 rfl (lv_at hl 3 rfl) ?_
    refine lv_iload hx hb d_M_find_16 (lv_at hl 4 rfl) ?_
    refine lv_iload hx hb d_M_find_18 (lv_at hl 5 rfl) ?_
    refine pu_v (runS C0 (k_M_areBounds l G w1 q.2.1 q.2.2.1 q.2.2.2.1 q.2.2.2.2) (cs_M_47 C0 ⟨Nat.le_of_ble_eq_true rfl, Nat.le_of_ble_eq_true rfl⟩) hH hS rfl hl.1 rfl (lv_room (Nat.le_of_ble_eq_true rfl)) d_M_find_20 ⟨by show _ ≤ 0; omega, by show _ ≤ 0; omega⟩) ?_
    refine lv_if_ne (tgt := 32) hx hb d_M_find_23 (by decide) (fun c_23 => ?_) (fun c_23 => ?_)
    · exact absurd ⟨Classical.byContradiction (fun q => c_11 (b01_f q)), Classical.byContradiction (fun q => c_23 (b01_f q))⟩ hk9
    · refine lv_aload_n hx hb d_M_find_26 rfl (lv_at hl 0 rfl) ?_
      refine lv_iconst (v := 1) hx hb d_M_find_27 (by decide) ?_
      refine gn_i (runV C0 (k_M_fail l G w1 1 hw1_y) (cs_M_43 C0 ⟨Nat.le_of_ble_eq_true rfl, Nat.le_of_ble_eq_true rfl⟩) hH hS (hd_recv C0.hK hH rfl hw1_y) rfl hl.1 rfl (lv_room (Nat.le_of_ble_eq_true rfl)) d_M_find_28 ⟨by show _ ≤ 0; omega, by show _ ≤ 0; omega⟩) hS (fun r3 w3 H locs hp3 hH hS => ?_)
      obtain ⟨rfl, ew3⟩ := hp3
      have hF9 := (show MAt G w1 y aT aX aY aU aV aR 0 th lx ly ux uy sz rf from ⟨hw1_y, hw1_aT, hw1_aX, hw1_aY, hw1_aU, hw1_aV, hw1_aR, hDi⟩).tc ew3
      have hK9 : Kp w w3 [y, aT, aX, aY, aU, aV, aR] := by rw [ew3, ew1]; exact (Kp.up (Or.inl (by simp))).ups (Or.inl (by simp))
      refine W.widen (k := 0) (n := 0) (by omega) (by omega) ?_
      exact W.iret hx hb hr (fun t ht hW => ⟨⟨0, w3, rfl, ⟨rfl, hF9, hK9⟩, Wo.at C0.ev hH hS ht hW⟩, hS.F ht⟩) hS.2.2 d_M_find_31 (hlocks := C0.2.2.2.2.2.2)

/-- the model's best so far -/
def BoS (z : Int32) (lx ly ux uy : Nat → Int32) (bi : Int32) (o : Option Int32) : Prop := (bi = -1 ∧ o = none) ∨ ∃ i : Nat, i < 4096 ∧ bi = nI i ∧ o = some (bnd (mb lx ly ux uy i) z)
theorem z_lt2 {z : Int32} (h : okW z) : z < 2 ↔ (z = 0 ∨ z = 1) := by
  unfold okW at h
  simp only [Int32.le_iff_toInt_le, Int32.lt_iff_toInt_lt, tI0, tI3, tI2] at h ⊢
  constructor
  · intro h2
    by_cases h3 : z.toInt = 0
    · exact Or.inl (Int32.toInt_inj.mp (h3.trans tI0.symm))
    · exact Or.inr (Int32.toInt_inj.mp ((show z.toInt = 1 by omega).trans tI1.symm))
  · rintro (h2 | h2)
    · rw [h2, tI0]; omega
    · rw [h2, tI1]; omega

set_option maxHeartbeats 4000000 in
set_option maxRecDepth 100000 in
theorem k_M_bounds (l : Launch) (G : Gl) (w : World) {y aT aX aY aU aV aR sz : Nat} {tc : Int32} {th lx ly ux uy rf : Nat → Int32} (hM : MAt G w y aT aX aY aU aV aR tc th lx ly ux uy sz rf) (z : Int32) (hz9 : okW z) (hne9 : boF z none (bl th lx ly ux uy 0 4096) ≠ none) :
    GnI l y_M_bounds ws_M_bounds 4 0 0 G w [.ref y, .int z] (fun r w1 => boF z none (bl th lx ly ux uy 0 4096) = some r ∧ MDo G w w1 y aT aX aY aU aV aR 0 th lx ly ux uy sz rf) := by
  refine met_ent (by decide +kernel) (Nat.le_of_ble_eq_true rfl) (fun p e s m below meth c ls C0 hr hin hH hl => ?_)
  have hx := C0.1
  have hb := C0.2.1
  have hS : va_S (gA G) s.heap s.heap [] := va_S.rf
  have hA : ∀ q : Nat, s.heap.size ≤ q → gA G q := fun q h => Nat.le_trans C0.ev.2.2.2.2.2.2.2.2.2.2.2.2 h
  have hl : lv_has ls 4 [(0, .ref y), (1, .int z)] := hl
  obtain ⟨hY, hT, hX, hYy, hU9, hV, hR, hDi⟩ := id hM
  obtain ⟨n_TX, n_TY, n_TU, n_TV, n_TR, n_XY, n_XU, n_XV, n_XR, n_YU, n_YV, n_YR, n_UV, n_UR, n_VR⟩ := id hDi
  refine lv_aload_n hx hb d_M_bounds_0 rfl (lv_at hl 0 rfl) ?_
  refine lv_iconst (v := 0) hx hb d_M_bounds_1 (by decide) ?_
  refine pf_M_29 C0 hH hS hY rfl rfl (Nat.le_of_ble_eq_true rfl) d_M_bounds_2 (fun H locs hH hS => ?_)
  obtain ⟨w1, ew1⟩ : ∃ z : World, z = va_up w y (some (.inr (3, [.int 0, .ref aT, .ref aX, .ref aY, .ref aU, .ref aV, .int (nI sz), .ref aR]))) := ⟨_, rfl⟩
  have hH : Hw G w1 H := by rw [ew1]; exact hH
  have hw1_aT : w1 aT = some (.inl (G.2.1.2.2.1, 4096, .inl th)) := by rw [ew1, va_up_ne _ _ (wne hT hY (by simp))]; exact hT
  have hw1_aX : w1 aX = some (.inl (G.2.1.1, 4096, .inl lx)) := by rw [ew1, va_up_ne _ _ (wne hX hY (by simp))]; exact hX
  have hw1_aY : w1 aY = some (.inl (G.2.1.1, 4096, .inl ly)) := by rw [ew1, va_up_ne _ _ (wne hYy hY (by simp))]; exact hYy
  have hw1_aU : w1 aU = some (.inl (G.2.1.1, 4096, .inl ux)) := by rw [ew1, va_up_ne _ _ (wne hU9 hY (by simp))]; exact hU9
  have hw1_aV : w1 aV = some (.inl (G.2.1.1, 4096, .inl uy)) := by rw [ew1, va_up_ne _ _ (wne hV hY (by simp))]; exact hV
  have hw1_aR : w1 aR = some (.inl (G.2.1.1, 4096, .inl rf)) := by rw [ew1, va_up_ne _ _ (wne hR hY (by simp))]; exact hR
  have hw1_y : w1 y = some (.inr (3, [.int 0, .ref aT, .ref aX, .ref aY, .ref aU, .ref aV, .int (nI sz), .ref aR])) := by rw [ew1]; exact va_up_self _ _ _
  refine lv_iload_n hx hb d_M_bounds_5 rfl (lv_at hl 1 rfl) ?_
  refine lv_iconst (v := 0) hx hb d_M_bounds_6 (by decide) ?_
  refine lv_iconst (v := 3) hx hb d_M_bounds_7 (by decide) ?_
  refine pu_v (runS C0 (k_M_within l G w1 z 0 3) (cs_M_35 C0 ⟨Nat.le_of_ble_eq_true rfl, Nat.le_of_ble_eq_true rfl⟩) hH hS rfl hl.1 rfl (lv_room (Nat.le_of_ble_eq_true rfl)) d_M_bounds_8 ⟨by show _ ≤ 0; omega, by show _ ≤ 0; omega⟩) ?_
  refine lv_if_ne (tgt := 20) hx hb d_M_bounds_11 (by decide) (fun c_11 => ?_) (fun c_11 => ?_)
  · refine lv_iconst (v := (-1)) hx hb d_M_bounds_20 (by decide) ?_
    refine lv_istore_n (lv' := [(2, .int (-1)), (0, .ref y), (1, .int z)]) hx hb d_M_bounds_21 rfl hl (by decide) rfl (fun ls hl => ?_)
    refine lv_iconst (v := 0) hx hb d_M_bounds_22 (by decide) ?_
    refine lv_istore_n (lv' := [(3, .int 0), (2, .int (-1)), (0, .ref y), (1, .int z)]) hx hb d_M_bounds_23 rfl hl (by decide) rfl (fun ls hl => ?_)
    have hK1 : Kp w w1 [y, aT, aX, aY, aU, aV, aR] := by rw [ew1]; exact Kp.up (Or.inl (by simp))
    have hM1 : MAt G w1 y aT aX aY aU aV aR 0 th lx ly ux uy sz rf := ⟨hw1_y, hw1_aT, hw1_aX, hw1_aY, hw1_aU, hw1_aV, hw1_aR, hDi⟩
    have loop : ∀ (u j : Nat), j + u = 4096 → ∀ (bi : Int32) (o : Option Int32), BoS z lx ly ux uy bi o → boF z o (bl th lx ly ux uy j u) = boF z none (bl th lx ly ux uy 0 4096) → ∀ ls : Array Slot, lv_has ls 4 [(0, .ref y), (1, .int z), (2, .int bi), (3, .int (nI j))] → W p l e (rmK 4 0 0) s m [.ref y, .int z].toArray below meth c H locs 0 0 (MQ below (va_Qi (fun r w1 => boF z none (bl th lx ly ux uy 0 4096) = some r ∧ MDo G w w1 y aT aX aY aU aV aR 0 th lx ly ux uy sz rf) (Wo G) (gA G)) [.ref y, .int z].toArray s 0 0 (gA G)) (F0 m 24 ls []) := by
      intro u
      induction u with
      | zero =>
        intro j hj bi o hbo hfo ls hl
        refine lv_iload_n hx hb d_M_bounds_24 rfl (lv_at hl 3 rfl) ?_
        refine lv_sipush (v := 4096) hx hb d_M_bounds_25 (by decide) ?_
        refine lv_icmp_ge (tgt := 90) hx hb d_M_bounds_28 (by decide) (fun c_28 => ?_) (fun c_28 => ?_)
        · rcases hbo with ⟨hbi, ho⟩ | ⟨i, hi9, hbi, ho⟩
          all_goals rw [bl, ho] at hfo
          · exact absurd hfo.symm hne9
          · subst hbi
            refine lv_iload_n hx hb d_M_bounds_90 rfl (lv_at hl 2 rfl) ?_
            refine lv_if_ge (tgt := 102) hx hb d_M_bounds_91 (by decide) (fun c_91 => ?_) (fun c_91 => ?_)
            · refine lv_aload_n hx hb d_M_bounds_102 rfl (lv_at hl 0 rfl) ?_
              refine lv_iload_n hx hb d_M_bounds_103 rfl (lv_at hl 2 rfl) ?_
              refine lv_iload_n hx hb d_M_bounds_104 rfl (lv_at hl 1 rfl) ?_
              refine pu_v (runV C0 (k_M_bound l G w1 hM1 i (by omega) z) (cs_M_81 C0 ⟨Nat.le_of_ble_eq_true rfl, Nat.le_of_ble_eq_true rfl⟩) hH hS (hd_recv C0.hK hH rfl hw1_y) rfl hl.1 rfl (lv_room (Nat.le_of_ble_eq_true rfl)) d_M_bounds_105 ⟨by show _ ≤ 0; omega, by show _ ≤ 0; omega⟩) ?_
              refine W.widen (k := 0) (n := 0) (by omega) (by omega) ?_
              exact W.iret hx hb hr (fun t ht hW => ⟨⟨(bnd (mb lx ly ux uy i) z), w1, rfl, ⟨hfo.symm, hM1, hK1⟩, Wo.at C0.ev hH hS ht hW⟩, hS.F ht⟩) hS.2.2 d_M_bounds_108 (hlocks := C0.2.2.2.2.2.2)
            · exact absurd (show nI 0 ≤ nI i from nI_le (Nat.zero_le _) (by omega)) c_91
        · exact absurd (show nI 4096 ≤ nI j from nI_le (by omega) (by omega)) c_28
      | succ u ih =>
        intro j hj bi o hbo hfo ls hl
        refine lv_iload_n hx hb d_M_bounds_24 rfl (lv_at hl 3 rfl) ?_
        refine lv_sipush (v := 4096) hx hb d_M_bounds_25 (by decide) ?_
        refine lv_icmp_ge (tgt := 90) hx hb d_M_bounds_28 (by decide) (fun c_28 => ?_) (fun c_28 => ?_)
        · exact absurd c_28 (Int32.not_le.mpr (show nI j < nI 4096 from nI_lt (by omega) (by omega)))
        · refine lv_aload_n hx hb d_M_bounds_31 rfl (lv_at hl 0 rfl) ?_
          refine gf_M_7 C0 hH hw1_y rfl d_M_bounds_32 ?_
          refine lv_iload_n hx hb d_M_bounds_35 rfl (lv_at hl 3 rfl) ?_
          refine hd_zald hx hb C0.hK hH 2 hw1_aT rfl (vp_in_nI (by omega) (by omega)) d_M_bounds_36 ?_
          rw [nI_clamp (by omega)]
          refine lv_if_eq (tgt := 84) hx hb d_M_bounds_37 (by decide) (fun c_37 => ?_) (fun c_37 => ?_)
          · obtain ⟨y_1, ey_1⟩ : ∃ z : Int32, z = (nI j) + 1 := ⟨_, rfl⟩
            refine lv_iinc (v := y_1) (lv' := [(3, .int y_1), (0, .ref y), (1, .int z), (2, .int bi)]) hx hb d_M_bounds_84 hl (k := 3) rfl (by rw [ey_1]; rfl) (by decide) rfl (fun ls hl => ?_)
            refine lv_goto (tgt := 24) hx hb d_M_bounds_87 (by decide) ?_
            rw [show y_1 = nI (j + 1) from by rw [ey_1]; exact nI_1 j] at hl
            exact ih (j + 1) (by omega) bi o hbo (by rw [← hfo, bl, if_pos c_37]) ls (lv_sub hl [1, 2, 3, 0] rfl)
          · rcases hbo with ⟨hbi, ho⟩ | ⟨i, hi9, hbi, ho⟩
            · subst hbi
              refine lv_iload_n hx hb d_M_bounds_40 rfl (lv_at hl 2 rfl) ?_
              refine lv_if_lt (tgt := 82) hx hb d_M_bounds_41 (by decide) (fun c_41 => ?_) (fun c_41 => ?_)
              · refine lv_iload_n hx hb d_M_bounds_82 rfl (lv_at hl 3 rfl) ?_
                refine lv_istore_n (lv' := [(2, .int (nI j)), (0, .ref y), (1, .int z), (3, .int (nI j))]) hx hb d_M_bounds_83 rfl hl (by decide) rfl (fun ls hl => ?_)
                obtain ⟨y_2, ey_2⟩ : ∃ z : Int32, z = (nI j) + 1 := ⟨_, rfl⟩
                refine lv_iinc (v := y_2) (lv' := [(3, .int y_2), (2, .int (nI j)), (0, .ref y), (1, .int z)]) hx hb d_M_bounds_84 hl (k := 3) rfl (by rw [ey_2]; rfl) (by decide) rfl (fun ls hl => ?_)
                refine lv_goto (tgt := 24) hx hb d_M_bounds_87 (by decide) ?_
                rw [show y_2 = nI (j + 1) from by rw [ey_2]; exact nI_1 j] at hl
                exact ih (j + 1) (by omega) (nI j) (some (bnd (mb lx ly ux uy j) z)) (Or.inr ⟨j, by omega, rfl, rfl⟩) (by rw [← hfo, bl, if_neg c_37, ho]; rfl) ls (lv_sub hl [2, 3, 1, 0] rfl)
              · exact absurd (by decide) c_41
            · subst hbi
              refine lv_iload_n hx hb d_M_bounds_40 rfl (lv_at hl 2 rfl) ?_
              refine lv_if_lt (tgt := 82) hx hb d_M_bounds_41 (by decide) (fun c_41 => ?_) (fun c_41 => ?_)
              · exact absurd c_41 (nI_pos (by omega))
              · refine lv_iload_n hx hb d_M_bounds_44 rfl (lv_at hl 1 rfl) ?_
                refine lv_iconst (v := 2) hx hb d_M_bounds_45 (by decide) ?_
                refine lv_icmp_ge (tgt := 67) hx hb d_M_bounds_46 (by decide) (fun c_46 => ?_) (fun c_46 => ?_)
                · refine lv_aload_n hx hb d_M_bounds_67 rfl (lv_at hl 0 rfl) ?_
                  refine lv_iload_n hx hb d_M_bounds_68 rfl (lv_at hl 3 rfl) ?_
                  refine lv_iload_n hx hb d_M_bounds_69 rfl (lv_at hl 1 rfl) ?_
                  refine pu_v (runV C0 (k_M_bound l G w1 hM1 j (by omega) z) (cs_M_81 C0 ⟨Nat.le_of_ble_eq_true rfl, Nat.le_of_ble_eq_true rfl⟩) hH hS (hd_recv C0.hK hH rfl hw1_y) rfl hl.1 rfl (lv_room (Nat.le_of_ble_eq_true rfl)) d_M_bounds_70 ⟨by show _ ≤ 0; omega, by show _ ≤ 0; omega⟩) ?_
                  refine lv_aload_n hx hb d_M_bounds_73 rfl (lv_at hl 0 rfl) ?_
                  refine lv_iload_n hx hb d_M_bounds_74 rfl (lv_at hl 2 rfl) ?_
                  refine lv_iload_n hx hb d_M_bounds_75 rfl (lv_at hl 1 rfl) ?_
                  refine pu_v (runV C0 (k_M_bound l G w1 hM1 i (by omega) z) (cs_M_81 C0 ⟨Nat.le_of_ble_eq_true rfl, Nat.le_of_ble_eq_true rfl⟩) hH hS (hd_recv C0.hK hH rfl hw1_y) rfl hl.1 rfl (lv_room (Nat.le_of_ble_eq_true rfl)) d_M_bounds_76 ⟨by show _ ≤ 0; omega, by show _ ≤ 0; omega⟩) ?_
                  refine lv_icmp_le (tgt := 84) hx hb d_M_bounds_79 (by decide) (fun c_79 => ?_) (fun c_79 => ?_)
                  · obtain ⟨y_3, ey_3⟩ : ∃ z : Int32, z = (nI j) + 1 := ⟨_, rfl⟩
                    refine lv_iinc (v := y_3) (lv' := [(3, .int y_3), (0, .ref y), (1, .int z), (2, .int (nI i))]) hx hb d_M_bounds_84 hl (k := 3) rfl (by rw [ey_3]; rfl) (by decide) rfl (fun ls hl => ?_)
                    refine lv_goto (tgt := 24) hx hb d_M_bounds_87 (by decide) ?_
                    rw [show y_3 = nI (j + 1) from by rw [ey_3]; exact nI_1 j] at hl
                    exact ih (j + 1) (by omega) (nI i) (some (bnd (mb lx ly ux uy i) z)) (Or.inr ⟨i, hi9, rfl, rfl⟩) (by rw [← hfo, bl, if_neg c_37, ho]; show _ = boF z (some (mmx z _ _)) _; unfold mmx; rw [if_neg (fun h => absurd ((z_lt2 hz9).mpr h) (Int32.not_lt.mpr c_46)), if_neg (Int32.not_lt.mpr c_79)]) ls (lv_sub hl [1, 2, 3, 0] rfl)
                  · refine lv_iload_n hx hb d_M_bounds_82 rfl (lv_at hl 3 rfl) ?_
                    refine lv_istore_n (lv' := [(2, .int (nI j)), (0, .ref y), (1, .int z), (3, .int (nI j))]) hx hb d_M_bounds_83 rfl hl (by decide) rfl (fun ls hl => ?_)
                    obtain ⟨y_4, ey_4⟩ : ∃ z : Int32, z = (nI j) + 1 := ⟨_, rfl⟩
                    refine lv_iinc (v := y_4) (lv' := [(3, .int y_4), (2, .int (nI j)), (0, .ref y), (1, .int z)]) hx hb d_M_bounds_84 hl (k := 3) rfl (by rw [ey_4]; rfl) (by decide) rfl (fun ls hl => ?_)
                    refine lv_goto (tgt := 24) hx hb d_M_bounds_87 (by decide) ?_
                    rw [show y_4 = nI (j + 1) from by rw [ey_4]; exact nI_1 j] at hl
                    exact ih (j + 1) (by omega) (nI j) (some (bnd (mb lx ly ux uy j) z)) (Or.inr ⟨j, by omega, rfl, rfl⟩) (by rw [← hfo, bl, if_neg c_37, ho]; show _ = boF z (some (mmx z _ _)) _; unfold mmx; rw [if_neg (fun h => absurd ((z_lt2 hz9).mpr h) (Int32.not_lt.mpr c_46)), if_pos (Int32.not_le.mp c_79)]) ls (lv_sub hl [2, 3, 1, 0] rfl)
                · refine lv_aload_n hx hb d_M_bounds_49 rfl (lv_at hl 0 rfl) ?_
                  refine lv_iload_n hx hb d_M_bounds_50 rfl (lv_at hl 3 rfl) ?_
                  refine lv_iload_n hx hb d_M_bounds_51 rfl (lv_at hl 1 rfl) ?_
                  refine pu_v (runV C0 (k_M_bound l G w1 hM1 j (by omega) z) (cs_M_81 C0 ⟨Nat.le_of_ble_eq_true rfl, Nat.le_of_ble_eq_true rfl⟩) hH hS (hd_recv C0.hK hH rfl hw1_y) rfl hl.1 rfl (lv_room (Nat.le_of_ble_eq_true rfl)) d_M_bounds_52 ⟨by show _ ≤ 0; omega, by show _ ≤ 0; omega⟩) ?_
                  refine lv_aload_n hx hb d_M_bounds_55 rfl (lv_at hl 0 rfl) ?_
                  refine lv_iload_n hx hb d_M_bounds_56 rfl (lv_at hl 2 rfl) ?_
                  refine lv_iload_n hx hb d_M_bounds_57 rfl (lv_at hl 1 rfl) ?_
                  refine pu_v (runV C0 (k_M_bound l G w1 hM1 i (by omega) z) (cs_M_81 C0 ⟨Nat.le_of_ble_eq_true rfl, Nat.le_of_ble_eq_true rfl⟩) hH hS (hd_recv C0.hK hH rfl hw1_y) rfl hl.1 rfl (lv_room (Nat.le_of_ble_eq_true rfl)) d_M_bounds_58 ⟨by show _ ≤ 0; omega, by show _ ≤ 0; omega⟩) ?_
                  refine lv_icmp_ge (tgt := 84) hx hb d_M_bounds_61 (by decide) (fun c_61 => ?_) (fun c_61 => ?_)
                  · obtain ⟨y_5, ey_5⟩ : ∃ z : Int32, z = (nI j) + 1 := ⟨_, rfl⟩
                    refine lv_iinc (v := y_5) (lv' := [(3, .int y_5), (0, .ref y), (1, .int z), (2, .int (nI i))]) hx hb d_M_bounds_84 hl (k := 3) rfl (by rw [ey_5]; rfl) (by decide) rfl (fun ls hl => ?_)
                    refine lv_goto (tgt := 24) hx hb d_M_bounds_87 (by decide) ?_
                    rw [show y_5 = nI (j + 1) from by rw [ey_5]; exact nI_1 j] at hl
                    exact ih (j + 1) (by omega) (nI i) (some (bnd (mb lx ly ux uy i) z)) (Or.inr ⟨i, hi9, rfl, rfl⟩) (by rw [← hfo, bl, if_neg c_37, ho]; show _ = boF z (some (mmx z _ _)) _; unfold mmx; rw [if_pos ((z_lt2 hz9).mp (Int32.not_le.mp c_46)), if_neg (Int32.not_lt.mpr c_61)]) ls (lv_sub hl [1, 2, 3, 0] rfl)
                  · refine lv_goto (tgt := 82) hx hb d_M_bounds_64 (by decide) ?_
                    refine lv_iload_n hx hb d_M_bounds_82 rfl (lv_at hl 3 rfl) ?_
                    refine lv_istore_n (lv' := [(2, .int (nI j)), (0, .ref y), (1, .int z), (3, .int (nI j))]) hx hb d_M_bounds_83 rfl hl (by decide) rfl (fun ls hl => ?_)
                    obtain ⟨y_6, ey_6⟩ : ∃ z : Int32, z = (nI j) + 1 := ⟨_, rfl⟩
                    refine lv_iinc (v := y_6) (lv' := [(3, .int y_6), (2, .int (nI j)), (0, .ref y), (1, .int z)]) hx hb d_M_bounds_84 hl (k := 3) rfl (by rw [ey_6]; rfl) (by decide) rfl (fun ls hl => ?_)
                    refine lv_goto (tgt := 24) hx hb d_M_bounds_87 (by decide) ?_
                    rw [show y_6 = nI (j + 1) from by rw [ey_6]; exact nI_1 j] at hl
                    exact ih (j + 1) (by omega) (nI j) (some (bnd (mb lx ly ux uy j) z)) (Or.inr ⟨j, by omega, rfl, rfl⟩) (by rw [← hfo, bl, if_neg c_37, ho]; show _ = boF z (some (mmx z _ _)) _; unfold mmx; rw [if_pos ((z_lt2 hz9).mp (Int32.not_le.mp c_46)), if_pos (Int32.not_le.mp c_61)]) ls (lv_sub hl [2, 3, 1, 0] rfl)
    exact loop 4096 0 rfl (-1) none (Or.inl ⟨rfl, rfl⟩) rfl ls (lv_sub hl [2, 3, 1, 0] rfl)
  · exact absurd ((b01_t hz9).symm.trans c_11) (by decide)

set_option maxHeartbeats 4000000 in
set_option maxRecDepth 100000 in
theorem k_M_bounds2 (l : Launch) (G : Gl) (w : World) {y aT aX aY aU aV aR sz : Nat} {tc : Int32} {th lx ly ux uy rf : Nat → Int32} (hM : MAt G w y aT aX aY aU aV aR tc th lx ly ux uy sz rf) (z : Int32) (hz9 : okW z) (hne9 : boF z none (bl th lx ly ux uy 0 4096) = none) :
    GnI l y_M_bounds ws_M_bounds 4 0 0 G w [.ref y, .int z] (fun r w1 => r = 0 ∧ MDo G w w1 y aT aX aY aU aV aR 2 th lx ly ux uy sz rf) := by
  refine met_ent (by decide +kernel) (Nat.le_of_ble_eq_true rfl) (fun p e s m below meth c ls C0 hr hin hH hl => ?_)
  have hx := C0.1
  have hb := C0.2.1
  have hS : va_S (gA G) s.heap s.heap [] := va_S.rf
  have hA : ∀ q : Nat, s.heap.size ≤ q → gA G q := fun q h => Nat.le_trans C0.ev.2.2.2.2.2.2.2.2.2.2.2.2 h
  have hl : lv_has ls 4 [(0, .ref y), (1, .int z)] := hl
  obtain ⟨hY, hT, hX, hYy, hU9, hV, hR, hDi⟩ := id hM
  obtain ⟨n_TX, n_TY, n_TU, n_TV, n_TR, n_XY, n_XU, n_XV, n_XR, n_YU, n_YV, n_YR, n_UV, n_UR, n_VR⟩ := id hDi
  refine lv_aload_n hx hb d_M_bounds_0 rfl (lv_at hl 0 rfl) ?_
  refine lv_iconst (v := 0) hx hb d_M_bounds_1 (by decide) ?_
  refine pf_M_29 C0 hH hS hY rfl rfl (Nat.le_of_ble_eq_true rfl) d_M_bounds_2 (fun H locs hH hS => ?_)
  obtain ⟨w1, ew1⟩ : ∃ z : World, z = va_up w y (some (.inr (3, [.int 0, .ref aT, .ref aX, .ref aY, .ref aU, .ref aV, .int (nI sz), .ref aR]))) := ⟨_, rfl⟩
  have hH : Hw G w1 H := by rw [ew1]; exact hH
  have hw1_aT : w1 aT = some (.inl (G.2.1.2.2.1, 4096, .inl th)) := by rw [ew1, va_up_ne _ _ (wne hT hY (by simp))]; exact hT
  have hw1_aX : w1 aX = some (.inl (G.2.1.1, 4096, .inl lx)) := by rw [ew1, va_up_ne _ _ (wne hX hY (by simp))]; exact hX
  have hw1_aY : w1 aY = some (.inl (G.2.1.1, 4096, .inl ly)) := by rw [ew1, va_up_ne _ _ (wne hYy hY (by simp))]; exact hYy
  have hw1_aU : w1 aU = some (.inl (G.2.1.1, 4096, .inl ux)) := by rw [ew1, va_up_ne _ _ (wne hU9 hY (by simp))]; exact hU9
  have hw1_aV : w1 aV = some (.inl (G.2.1.1, 4096, .inl uy)) := by rw [ew1, va_up_ne _ _ (wne hV hY (by simp))]; exact hV
  have hw1_aR : w1 aR = some (.inl (G.2.1.1, 4096, .inl rf)) := by rw [ew1, va_up_ne _ _ (wne hR hY (by simp))]; exact hR
  have hw1_y : w1 y = some (.inr (3, [.int 0, .ref aT, .ref aX, .ref aY, .ref aU, .ref aV, .int (nI sz), .ref aR])) := by rw [ew1]; exact va_up_self _ _ _
  refine lv_iload_n hx hb d_M_bounds_5 rfl (lv_at hl 1 rfl) ?_
  refine lv_iconst (v := 0) hx hb d_M_bounds_6 (by decide) ?_
  refine lv_iconst (v := 3) hx hb d_M_bounds_7 (by decide) ?_
  refine pu_v (runS C0 (k_M_within l G w1 z 0 3) (cs_M_35 C0 ⟨Nat.le_of_ble_eq_true rfl, Nat.le_of_ble_eq_true rfl⟩) hH hS rfl hl.1 rfl (lv_room (Nat.le_of_ble_eq_true rfl)) d_M_bounds_8 ⟨by show _ ≤ 0; omega, by show _ ≤ 0; omega⟩) ?_
  refine lv_if_ne (tgt := 20) hx hb d_M_bounds_11 (by decide) (fun c_11 => ?_) (fun c_11 => ?_)
  · refine lv_iconst (v := (-1)) hx hb d_M_bounds_20 (by decide) ?_
    refine lv_istore_n (lv' := [(2, .int (-1)), (0, .ref y), (1, .int z)]) hx hb d_M_bounds_21 rfl hl (by decide) rfl (fun ls hl => ?_)
    refine lv_iconst (v := 0) hx hb d_M_bounds_22 (by decide) ?_
    refine lv_istore_n (lv' := [(3, .int 0), (2, .int (-1)), (0, .ref y), (1, .int z)]) hx hb d_M_bounds_23 rfl hl (by decide) rfl (fun ls hl => ?_)
    have hK1 : Kp w w1 [y, aT, aX, aY, aU, aV, aR] := by rw [ew1]; exact Kp.up (Or.inl (by simp))
    have hM1 : MAt G w1 y aT aX aY aU aV aR 0 th lx ly ux uy sz rf := ⟨hw1_y, hw1_aT, hw1_aX, hw1_aY, hw1_aU, hw1_aV, hw1_aR, hDi⟩
    have loop : ∀ (u j : Nat), j + u = 4096 → ∀ (bi : Int32) (o : Option Int32), BoS z lx ly ux uy bi o → boF z o (bl th lx ly ux uy j u) = boF z none (bl th lx ly ux uy 0 4096) → ∀ ls : Array Slot, lv_has ls 4 [(0, .ref y), (1, .int z), (2, .int bi), (3, .int (nI j))] → W p l e (rmK 4 0 0) s m [.ref y, .int z].toArray below meth c H locs 0 0 (MQ below (va_Qi (fun r w1 => r = 0 ∧ MDo G w w1 y aT aX aY aU aV aR 2 th lx ly ux uy sz rf) (Wo G) (gA G)) [.ref y, .int z].toArray s 0 0 (gA G)) (F0 m 24 ls []) := by
      intro u
      induction u with
      | zero =>
        intro j hj bi o hbo hfo ls hl
        refine lv_iload_n hx hb d_M_bounds_24 rfl (lv_at hl 3 rfl) ?_
        refine lv_sipush (v := 4096) hx hb d_M_bounds_25 (by decide) ?_
        refine lv_icmp_ge (tgt := 90) hx hb d_M_bounds_28 (by decide) (fun c_28 => ?_) (fun c_28 => ?_)
        · rcases hbo with ⟨hbi, ho⟩ | ⟨i, hi9, hbi, ho⟩
          all_goals rw [bl, ho] at hfo
          · subst hbi
            refine lv_iload_n hx hb d_M_bounds_90 rfl (lv_at hl 2 rfl) ?_
            refine lv_if_ge (tgt := 102) hx hb d_M_bounds_91 (by decide) (fun c_91 => ?_) (fun c_91 => ?_)
            · exact absurd c_91 (by decide)
            · refine lv_aload_n hx hb d_M_bounds_94 rfl (lv_at hl 0 rfl) ?_
              refine lv_iconst (v := 2) hx hb d_M_bounds_95 (by decide) ?_
              refine gn_i (runV C0 (k_M_fail l G w1 2 hw1_y) (cs_M_43 C0 ⟨Nat.le_of_ble_eq_true rfl, Nat.le_of_ble_eq_true rfl⟩) hH hS (hd_recv C0.hK hH rfl hw1_y) rfl hl.1 rfl (lv_room (Nat.le_of_ble_eq_true rfl)) d_M_bounds_96 ⟨by show _ ≤ 0; omega, by show _ ≤ 0; omega⟩) hS (fun r2 w2 H locs hp2 hH hS => ?_)
              obtain ⟨rfl, ew2⟩ := hp2
              have hF9 := (show MAt G w1 y aT aX aY aU aV aR 0 th lx ly ux uy sz rf from ⟨hw1_y, hw1_aT, hw1_aX, hw1_aY, hw1_aU, hw1_aV, hw1_aR, hDi⟩).tc ew2
              have hK9 : Kp w w2 [y, aT, aX, aY, aU, aV, aR] := by rw [ew2, ew1]; exact (Kp.up (Or.inl (by simp))).ups (Or.inl (by simp))
              refine lv_goto (tgt := 108) hx hb d_M_bounds_99 (by decide) ?_
              refine W.widen (k := 0) (n := 0) (by omega) (by omega) ?_
              exact W.iret hx hb hr (fun t ht hW => ⟨⟨0, w2, rfl, ⟨rfl, hF9, hK9⟩, Wo.at C0.ev hH hS ht hW⟩, hS.F ht⟩) hS.2.2 d_M_bounds_108 (hlocks := C0.2.2.2.2.2.2)
          · exact absurd (hfo.trans hne9) (by intro h; cases h)
        · exact absurd (show nI 4096 ≤ nI j from nI_le (by omega) (by omega)) c_28
      | succ u ih =>
        intro j hj bi o hbo hfo ls hl
        refine lv_iload_n hx hb d_M_bounds_24 rfl (lv_at hl 3 rfl) ?_
        refine lv_sipush (v := 4096) hx hb d_M_bounds_25 (by decide) ?_
        refine lv_icmp_ge (tgt := 90) hx hb d_M_bounds_28 (by decide) (fun c_28 => ?_) (fun c_28 => ?_)
        · exact absurd c_28 (Int32.not_le.mpr (show nI j < nI 4096 from nI_lt (by omega) (by omega)))
        · refine lv_aload_n hx hb d_M_bounds_31 rfl (lv_at hl 0 rfl) ?_
          refine gf_M_7 C0 hH hw1_y rfl d_M_bounds_32 ?_
          refine lv_iload_n hx hb d_M_bounds_35 rfl (lv_at hl 3 rfl) ?_
          refine hd_zald hx hb C0.hK hH 2 hw1_aT rfl (vp_in_nI (by omega) (by omega)) d_M_bounds_36 ?_
          rw [nI_clamp (by omega)]
          refine lv_if_eq (tgt := 84) hx hb d_M_bounds_37 (by decide) (fun c_37 => ?_) (fun c_37 => ?_)
          · obtain ⟨y_1, ey_1⟩ : ∃ z : Int32, z = (nI j) + 1 := ⟨_, rfl⟩
            refine lv_iinc (v := y_1) (lv' := [(3, .int y_1), (0, .ref y), (1, .int z), (2, .int bi)]) hx hb d_M_bounds_84 hl (k := 3) rfl (by rw [ey_1]; rfl) (by decide) rfl (fun ls hl => ?_)
            refine lv_goto (tgt := 24) hx hb d_M_bounds_87 (by decide) ?_
            rw [show y_1 = nI (j + 1) from by rw [ey_1]; exact nI_1 j] at hl
            exact ih (j + 1) (by omega) bi o hbo (by rw [← hfo, bl, if_pos c_37]) ls (lv_sub hl [1, 2, 3, 0] rfl)
          · rcases hbo with ⟨hbi, ho⟩ | ⟨i, hi9, hbi, ho⟩
            · subst hbi
              refine lv_iload_n hx hb d_M_bounds_40 rfl (lv_at hl 2 rfl) ?_
              refine lv_if_lt (tgt := 82) hx hb d_M_bounds_41 (by decide) (fun c_41 => ?_) (fun c_41 => ?_)
              · refine lv_iload_n hx hb d_M_bounds_82 rfl (lv_at hl 3 rfl) ?_
                refine lv_istore_n (lv' := [(2, .int (nI j)), (0, .ref y), (1, .int z), (3, .int (nI j))]) hx hb d_M_bounds_83 rfl hl (by decide) rfl (fun ls hl => ?_)
                obtain ⟨y_2, ey_2⟩ : ∃ z : Int32, z = (nI j) + 1 := ⟨_, rfl⟩
                refine lv_iinc (v := y_2) (lv' := [(3, .int y_2), (2, .int (nI j)), (0, .ref y), (1, .int z)]) hx hb d_M_bounds_84 hl (k := 3) rfl (by rw [ey_2]; rfl) (by decide) rfl (fun ls hl => ?_)
                refine lv_goto (tgt := 24) hx hb d_M_bounds_87 (by decide) ?_
                rw [show y_2 = nI (j + 1) from by rw [ey_2]; exact nI_1 j] at hl
                exact ih (j + 1) (by omega) (nI j) (some (bnd (mb lx ly ux uy j) z)) (Or.inr ⟨j, by omega, rfl, rfl⟩) (by rw [← hfo, bl, if_neg c_37, ho]; rfl) ls (lv_sub hl [2, 3, 1, 0] rfl)
              · exact absurd (by decide) c_41
            · subst hbi
              refine lv_iload_n hx hb d_M_bounds_40 rfl (lv_at hl 2 rfl) ?_
              refine lv_if_lt (tgt := 82) hx hb d_M_bounds_41 (by decide) (fun c_41 => ?_) (fun c_41 => ?_)
              · exact absurd c_41 (nI_pos (by omega))
              · refine lv_iload_n hx hb d_M_bounds_44 rfl (lv_at hl 1 rfl) ?_
                refine lv_iconst (v := 2) hx hb d_M_bounds_45 (by decide) ?_
                refine lv_icmp_ge (tgt := 67) hx hb d_M_bounds_46 (by decide) (fun c_46 => ?_) (fun c_46 => ?_)
                · refine lv_aload_n hx hb d_M_bounds_67 rfl (lv_at hl 0 rfl) ?_
                  refine lv_iload_n hx hb d_M_bounds_68 rfl (lv_at hl 3 rfl) ?_
                  refine lv_iload_n hx hb d_M_bounds_69 rfl (lv_at hl 1 rfl) ?_
                  refine pu_v (runV C0 (k_M_bound l G w1 hM1 j (by omega) z) (cs_M_81 C0 ⟨Nat.le_of_ble_eq_true rfl, Nat.le_of_ble_eq_true rfl⟩) hH hS (hd_recv C0.hK hH rfl hw1_y) rfl hl.1 rfl (lv_room (Nat.le_of_ble_eq_true rfl)) d_M_bounds_70 ⟨by show _ ≤ 0; omega, by show _ ≤ 0; omega⟩) ?_
                  refine lv_aload_n hx hb d_M_bounds_73 rfl (lv_at hl 0 rfl) ?_
                  refine lv_iload_n hx hb d_M_bounds_74 rfl (lv_at hl 2 rfl) ?_
                  refine lv_iload_n hx hb d_M_bounds_75 rfl (lv_at hl 1 rfl) ?_
                  refine pu_v (runV C0 (k_M_bound l G w1 hM1 i (by omega) z) (cs_M_81 C0 ⟨Nat.le_of_ble_eq_true rfl, Nat.le_of_ble_eq_true rfl⟩) hH hS (hd_recv C0.hK hH rfl hw1_y) rfl hl.1 rfl (lv_room (Nat.le_of_ble_eq_true rfl)) d_M_bounds_76 ⟨by show _ ≤ 0; omega, by show _ ≤ 0; omega⟩) ?_
                  refine lv_icmp_le (tgt := 84) hx hb d_M_bounds_79 (by decide) (fun c_79 => ?_) (fun c_79 => ?_)
                  · obtain ⟨y_3, ey_3⟩ : ∃ z : Int32, z = (nI j) + 1 := ⟨_, rfl⟩
                    refine lv_iinc (v := y_3) (lv' := [(3, .int y_3), (0, .ref y), (1, .int z), (2, .int (nI i))]) hx hb d_M_bounds_84 hl (k := 3) rfl (by rw [ey_3]; rfl) (by decide) rfl (fun ls hl => ?_)
                    refine lv_goto (tgt := 24) hx hb d_M_bounds_87 (by decide) ?_
                    rw [show y_3 = nI (j + 1) from by rw [ey_3]; exact nI_1 j] at hl
                    exact ih (j + 1) (by omega) (nI i) (some (bnd (mb lx ly ux uy i) z)) (Or.inr ⟨i, hi9, rfl, rfl⟩) (by rw [← hfo, bl, if_neg c_37, ho]; show _ = boF z (some (mmx z _ _)) _; unfold mmx; rw [if_neg (fun h => absurd ((z_lt2 hz9).mpr h) (Int32.not_lt.mpr c_46)), if_neg (Int32.not_lt.mpr c_79)]) ls (lv_sub hl [1, 2, 3, 0] rfl)
                  · refine lv_iload_n hx hb d_M_bounds_82 rfl (lv_at hl 3 rfl) ?_
                    refine lv_istore_n (lv' := [(2, .int (nI j)), (0, .ref y), (1, .int z), (3, .int (nI j))]) hx hb d_M_bounds_83 rfl hl (by decide) rfl (fun ls hl => ?_)
                    obtain ⟨y_4, ey_4⟩ : ∃ z : Int32, z = (nI j) + 1 := ⟨_, rfl⟩
                    refine lv_iinc (v := y_4) (lv' := [(3, .int y_4), (2, .int (nI j)), (0, .ref y), (1, .int z)]) hx hb d_M_bounds_84 hl (k := 3) rfl (by rw [ey_4]; rfl) (by decide) rfl (fun ls hl => ?_)
                    refine lv_goto (tgt := 24) hx hb d_M_bounds_87 (by decide) ?_
                    rw [show y_4 = nI (j + 1) from by rw [ey_4]; exact nI_1 j] at hl
                    exact ih (j + 1) (by omega) (nI j) (some (bnd (mb lx ly ux uy j) z)) (Or.inr ⟨j, by omega, rfl, rfl⟩) (by rw [← hfo, bl, if_neg c_37, ho]; show _ = boF z (some (mmx z _ _)) _; unfold mmx; rw [if_neg (fun h => absurd ((z_lt2 hz9).mpr h) (Int32.not_lt.mpr c_46)), if_pos (Int32.not_le.mp c_79)]) ls (lv_sub hl [2, 3, 1, 0] rfl)
                · refine lv_aload_n hx hb d_M_bounds_49 rfl (lv_at hl 0 rfl) ?_
                  refine lv_iload_n hx hb d_M_bounds_50 rfl (lv_at hl 3 rfl) ?_
                  refine lv_iload_n hx hb d_M_bounds_51 rfl (lv_at hl 1 rfl) ?_
                  refine pu_v (runV C0 (k_M_bound l G w1 hM1 j (by omega) z) (cs_M_81 C0 ⟨Nat.le_of_ble_eq_true rfl, Nat.le_of_ble_eq_true rfl⟩) hH hS (hd_recv C0.hK hH rfl hw1_y) rfl hl.1 rfl (lv_room (Nat.le_of_ble_eq_true rfl)) d_M_bounds_52 ⟨by show _ ≤ 0; omega, by show _ ≤ 0; omega⟩) ?_
                  refine lv_aload_n hx hb d_M_bounds_55 rfl (lv_at hl 0 rfl) ?_
                  refine lv_iload_n hx hb d_M_bounds_56 rfl (lv_at hl 2 rfl) ?_
                  refine lv_iload_n hx hb d_M_bounds_57 rfl (lv_at hl 1 rfl) ?_
                  refine pu_v (runV C0 (k_M_bound l G w1 hM1 i (by omega) z) (cs_M_81 C0 ⟨Nat.le_of_ble_eq_true rfl, Nat.le_of_ble_eq_true rfl⟩) hH hS (hd_recv C0.hK hH rfl hw1_y) rfl hl.1 rfl (lv_room (Nat.le_of_ble_eq_true rfl)) d_M_bounds_58 ⟨by show _ ≤ 0; omega, by show _ ≤ 0; omega⟩) ?_
                  refine lv_icmp_ge (tgt := 84) hx hb d_M_bounds_61 (by decide) (fun c_61 => ?_) (fun c_61 => ?_)
                  · obtain ⟨y_5, ey_5⟩ : ∃ z : Int32, z = (nI j) + 1 := ⟨_, rfl⟩
                    refine lv_iinc (v := y_5) (lv' := [(3, .int y_5), (0, .ref y), (1, .int z), (2, .int (nI i))]) hx hb d_M_bounds_84 hl (k := 3) rfl (by rw [ey_5]; rfl) (by decide) rfl (fun ls hl => ?_)
                    refine lv_goto (tgt := 24) hx hb d_M_bounds_87 (by decide) ?_
                    rw [show y_5 = nI (j + 1) from by rw [ey_5]; exact nI_1 j] at hl
                    exact ih (j + 1) (by omega) (nI i) (some (bnd (mb lx ly ux uy i) z)) (Or.inr ⟨i, hi9, rfl, rfl⟩) (by rw [← hfo, bl, if_neg c_37, ho]; show _ = boF z (some (mmx z _ _)) _; unfold mmx; rw [if_pos ((z_lt2 hz9).mp (Int32.not_le.mp c_46)), if_neg (Int32.not_lt.mpr c_61)]) ls (lv_sub hl [1, 2, 3, 0] rfl)
                  · refine lv_goto (tgt := 82) hx hb d_M_bounds_64 (by decide) ?_
                    refine lv_iload_n hx hb d_M_bounds_82 rfl (lv_at hl 3 rfl) ?_
                    refine lv_istore_n (lv' := [(2, .int (nI j)), (0, .ref y), (1, .int z), (3, .int (nI j))]) hx hb d_M_bounds_83 rfl hl (by decide) rfl (fun ls hl => ?_)
                    obtain ⟨y_6, ey_6⟩ : ∃ z : Int32, z = (nI j) + 1 := ⟨_, rfl⟩
                    refine lv_iinc (v := y_6) (lv' := [(3, .int y_6), (2, .int (nI j)), (0, .ref y), (1, .int z)]) hx hb d_M_bounds_84 hl (k := 3) rfl (by rw [ey_6]; rfl) (by decide) rfl (fun ls hl => ?_)
                    refine lv_goto (tgt := 24) hx hb d_M_bounds_87 (by decide) ?_
                    rw [show y_6 = nI (j + 1) from by rw [ey_6]; exact nI_1 j] at hl
                    exact ih (j + 1) (by omega) (nI j) (some (bnd (mb lx ly ux uy j) z)) (Or.inr ⟨j, by omega, rfl, rfl⟩) (by rw [← hfo, bl, if_neg c_37, ho]; show _ = boF z (some (mmx z _ _)) _; unfold mmx; rw [if_pos ((z_lt2 hz9).mp (Int32.not_le.mp c_46)), if_pos (Int32.not_le.mp c_61)]) ls (lv_sub hl [2, 3, 1, 0] rfl)
    exact loop 4096 0 rfl (-1) none (Or.inl ⟨rfl, rfl⟩) rfl ls (lv_sub hl [2, 3, 1, 0] rfl)
  · exact absurd ((b01_t hz9).symm.trans c_11) (by decide)

set_option maxHeartbeats 4000000 in
set_option maxRecDepth 100000 in
theorem k_M_bounds1 (l : Launch) (G : Gl) (w : World) {y aT aX aY aU aV aR sz : Nat} {tc : Int32} {th lx ly ux uy rf : Nat → Int32} (hM : MAt G w y aT aX aY aU aV aR tc th lx ly ux uy sz rf) (z : Int32) (hz9 : ¬ okW z) :
    GnI l y_M_bounds ws_M_bounds 4 0 0 G w [.ref y, .int z] (fun r w1 => r = 0 ∧ MDo G w w1 y aT aX aY aU aV aR 1 th lx ly ux uy sz rf) := by
  refine met_ent (by decide +kernel) (Nat.le_of_ble_eq_true rfl) (fun p e s m below meth c ls C0 hr hin hH hl => ?_)
  have hx := C0.1
  have hb := C0.2.1
  have hS : va_S (gA G) s.heap s.heap [] := va_S.rf
  have hA : ∀ q : Nat, s.heap.size ≤ q → gA G q := fun q h => Nat.le_trans C0.ev.2.2.2.2.2.2.2.2.2.2.2.2 h
  have hl : lv_has ls 4 [(0, .ref y), (1, .int z)] := hl
  obtain ⟨hY, hT, hX, hYy, hU9, hV, hR, hDi⟩ := id hM
  obtain ⟨n_TX, n_TY, n_TU, n_TV, n_TR, n_XY, n_XU, n_XV, n_XR, n_YU, n_YV, n_YR, n_UV, n_UR, n_VR⟩ := id hDi
  refine lv_aload_n hx hb d_M_bounds_0 rfl (lv_at hl 0 rfl) ?_
  refine lv_iconst (v := 0) hx hb d_M_bounds_1 (by decide) ?_
  refine pf_M_29 C0 hH hS hY rfl rfl (Nat.le_of_ble_eq_true rfl) d_M_bounds_2 (fun H locs hH hS => ?_)
  obtain ⟨w1, ew1⟩ : ∃ z : World, z = va_up w y (some (.inr (3, [.int 0, .ref aT, .ref aX, .ref aY, .ref aU, .ref aV, .int (nI sz), .ref aR]))) := ⟨_, rfl⟩
  have hH : Hw G w1 H := by rw [ew1]; exact hH
  have hw1_aT : w1 aT = some (.inl (G.2.1.2.2.1, 4096, .inl th)) := by rw [ew1, va_up_ne _ _ (wne hT hY (by simp))]; exact hT
  have hw1_aX : w1 aX = some (.inl (G.2.1.1, 4096, .inl lx)) := by rw [ew1, va_up_ne _ _ (wne hX hY (by simp))]; exact hX
  have hw1_aY : w1 aY = some (.inl (G.2.1.1, 4096, .inl ly)) := by rw [ew1, va_up_ne _ _ (wne hYy hY (by simp))]; exact hYy
  have hw1_aU : w1 aU = some (.inl (G.2.1.1, 4096, .inl ux)) := by rw [ew1, va_up_ne _ _ (wne hU9 hY (by simp))]; exact hU9
  have hw1_aV : w1 aV = some (.inl (G.2.1.1, 4096, .inl uy)) := by rw [ew1, va_up_ne _ _ (wne hV hY (by simp))]; exact hV
  have hw1_aR : w1 aR = some (.inl (G.2.1.1, 4096, .inl rf)) := by rw [ew1, va_up_ne _ _ (wne hR hY (by simp))]; exact hR
  have hw1_y : w1 y = some (.inr (3, [.int 0, .ref aT, .ref aX, .ref aY, .ref aU, .ref aV, .int (nI sz), .ref aR])) := by rw [ew1]; exact va_up_self _ _ _
  refine lv_iload_n hx hb d_M_bounds_5 rfl (lv_at hl 1 rfl) ?_
  refine lv_iconst (v := 0) hx hb d_M_bounds_6 (by decide) ?_
  refine lv_iconst (v := 3) hx hb d_M_bounds_7 (by decide) ?_
  refine pu_v (runS C0 (k_M_within l G w1 z 0 3) (cs_M_35 C0 ⟨Nat.le_of_ble_eq_true rfl, Nat.le_of_ble_eq_true rfl⟩) hH hS rfl hl.1 rfl (lv_room (Nat.le_of_ble_eq_true rfl)) d_M_bounds_8 ⟨by show _ ≤ 0; omega, by show _ ≤ 0; omega⟩) ?_
  refine lv_if_ne (tgt := 20) hx hb d_M_bounds_11 (by decide) (fun c_11 => ?_) (fun c_11 => ?_)
  · exact absurd (b01_f hz9) c_11
  · refine lv_aload_n hx hb d_M_bounds_14 rfl (lv_at hl 0 rfl) ?_
    refine lv_iconst (v := 1) hx hb d_M_bounds_15 (by decide) ?_
    refine gn_i (runV C0 (k_M_fail l G w1 1 hw1_y) (cs_M_43 C0 ⟨Nat.le_of_ble_eq_true rfl, Nat.le_of_ble_eq_true rfl⟩) hH hS (hd_recv C0.hK hH rfl hw1_y) rfl hl.1 rfl (lv_room (Nat.le_of_ble_eq_true rfl)) d_M_bounds_16 ⟨by show _ ≤ 0; omega, by show _ ≤ 0; omega⟩) hS (fun r2 w2 H locs hp2 hH hS => ?_)
    obtain ⟨rfl, ew2⟩ := hp2
    have hF9 := (show MAt G w1 y aT aX aY aU aV aR 0 th lx ly ux uy sz rf from ⟨hw1_y, hw1_aT, hw1_aX, hw1_aY, hw1_aU, hw1_aV, hw1_aR, hDi⟩).tc ew2
    have hK9 : Kp w w2 [y, aT, aX, aY, aU, aV, aR] := by rw [ew2, ew1]; exact (Kp.up (Or.inl (by simp))).ups (Or.inl (by simp))
    refine W.widen (k := 0) (n := 0) (by omega) (by omega) ?_
    exact W.iret hx hb hr (fun t ht hW => ⟨⟨0, w2, rfl, ⟨rfl, hF9, hK9⟩, Wo.at C0.ev hH hS ht hW⟩, hS.F ht⟩) hS.2.2 d_M_bounds_19 (hlocks := C0.2.2.2.2.2.2)
