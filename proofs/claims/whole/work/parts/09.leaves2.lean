/-! the boxes' other methods; what is refused -/
def way (v lo hi : Int32) : Int64 := if v < lo then lo.toInt64 - v.toInt64 else if hi < v then v.toInt64 - hi.toInt64 else 0
def bDst (a : Bx) (x y : Int32) : Int64 := way x a.2.1 a.2.2.2.1 * way x a.2.1 a.2.2.2.1 + way y a.2.2.1 a.2.2.2.2 * way y a.2.2.1 a.2.2.2.2
def bnd (a : Bx) (k : Int32) : Int32 := if k = 0 then a.2.1 else if k = 1 then a.2.2.1 else if k = 2 then a.2.2.2.1 else a.2.2.2.2
def fitsP (k : Int32) (a b : Bx) : Prop := if k = 0 then bMeets a b else if k = 1 then bIn a b else bIn b a
def okC (x : Int32) : Prop := -1000000000 ≤ x ∧ x ≤ 1000000000
def okP (x y : Int32) : Prop := okC x ∧ okC y
def okB (lx ly hx hy : Int32) : Prop := okP lx ly ∧ okP hx hy ∧ lx ≤ hx ∧ ly ≤ hy
def okN (b : Int32) : Prop := 0 ≤ b ∧ b < 4096
def okW (k : Int32) : Prop := 0 ≤ k ∧ k ≤ 3
theorem tI9 : (1000000000 : Int32).toInt = 1000000000 := by decide
theorem tIm9 : (-1000000000 : Int32).toInt = -1000000000 := by decide
theorem tI4096 : (4096 : Int32).toInt = 4096 := by decide
theorem tI3 : (3 : Int32).toInt = 3 := by decide
theorem tI2 : (2 : Int32).toInt = 2 := by decide
theorem tI1 : (1 : Int32).toInt = 1 := by decide
theorem tI0 : (0 : Int32).toInt = 0 := by decide
theorem tIne {x y : Int32} (h : ¬ x = y) : x.toInt ≠ y.toInt := fun q => h (Int32.toInt_inj.mp q)

set_option maxHeartbeats 4000000 in
set_option maxRecDepth 100000 in
theorem k_X_wayTo (l : Launch) (G : Gl) (w : World) (v lo hi : Int32) :
    PuM l y_X_wayTo ws_X_wayTo 0 G w [.int v, .int lo, .int hi] (some (.long (way v lo hi))) := by
  refine met_ent (by decide +kernel) (Nat.le_of_ble_eq_true rfl) (fun p e s m below meth c ls C0 hr hin hH hl => ?_)
  have hx := C0.1
  have hb := C0.2.1
  have hS : va_S (gA G) s.heap s.heap [] := va_S.rf
  have hl : lv_has ls 3 [(0, .int v), (1, .int lo), (2, .int hi)] := hl
  refine lv_iload_n hx hb d_X_wayTo_0 rfl (lv_at hl 0 rfl) ?_
  refine lv_iload_n hx hb d_X_wayTo_1 rfl (lv_at hl 1 rfl) ?_
  refine lv_icmp_ge (tgt := 11) hx hb d_X_wayTo_2 (by decide) (fun c_2 => ?_) (fun c_2 => ?_)
  · refine lv_iload_n hx hb d_X_wayTo_11 rfl (lv_at hl 0 rfl) ?_
    refine lv_iload_n hx hb d_X_wayTo_12 rfl (lv_at hl 2 rfl) ?_
    refine lv_icmp_le (tgt := 24) hx hb d_X_wayTo_13 (by decide) (fun c_13 => ?_) (fun c_13 => ?_)
    · refine lv_lconst (v := 0) hx hb d_X_wayTo_24 (by decide) ?_
      exact W.lret hx hb hr (fun t ht _ => ⟨congrArg (fun z => Outcome.returned (some (Value.long z))) (by unfold way; rw [if_neg (Int32.not_lt.mpr c_2), if_neg (Int32.not_lt.mpr c_13)]), ht⟩) (fun _ h => by cases h) d_X_wayTo_25 (hlocks := C0.2.2.2.2.2.2)
    · refine lv_iload_n hx hb d_X_wayTo_16 rfl (lv_at hl 0 rfl) ?_
      refine lv_i2l hx hb d_X_wayTo_17 rfl ?_
      refine lv_iload_n hx hb d_X_wayTo_18 rfl (lv_at hl 2 rfl) ?_
      refine lv_i2l hx hb d_X_wayTo_19 rfl ?_
      refine lv_lsub hx hb d_X_wayTo_20 ?_
      refine lv_goto (tgt := 25) hx hb d_X_wayTo_21 (by decide) ?_
      exact W.lret hx hb hr (fun t ht _ => ⟨congrArg (fun z => Outcome.returned (some (Value.long z))) (by unfold way; rw [if_neg (Int32.not_lt.mpr c_2), if_pos (Int32.not_le.mp c_13)]), ht⟩) (fun _ h => by cases h) d_X_wayTo_25 (hlocks := C0.2.2.2.2.2.2)
  · refine lv_iload_n hx hb d_X_wayTo_5 rfl (lv_at hl 1 rfl) ?_
    refine lv_i2l hx hb d_X_wayTo_6 rfl ?_
    refine lv_iload_n hx hb d_X_wayTo_7 rfl (lv_at hl 0 rfl) ?_
    refine lv_i2l hx hb d_X_wayTo_8 rfl ?_
    refine lv_lsub hx hb d_X_wayTo_9 ?_
    exact W.lret hx hb hr (fun t ht _ => ⟨congrArg (fun z => Outcome.returned (some (Value.long z))) (by unfold way; rw [if_pos (Int32.not_le.mp c_2)]), ht⟩) (fun _ h => by cases h) d_X_wayTo_10 (hlocks := C0.2.2.2.2.2.2)

set_option maxHeartbeats 4000000 in
set_option maxRecDepth 100000 in
theorem k_X_distanceFrom (l : Launch) (G : Gl) (w : World) {q : Nat} {a : Bx} (x y : Int32) (hq1 : w q = some (.inr (1, bxf a))) :
    PuM l y_X_distanceFrom ws_X_distanceFrom 1 G w [.ref q, .int x, .int y] (some (.long (bDst a x y))) := by
  refine met_ent (by decide +kernel) (Nat.le_of_ble_eq_true rfl) (fun p e s m below meth c ls C0 hr hin hH hl => ?_)
  have hx := C0.1
  have hb := C0.2.1
  have hS : va_S (gA G) s.heap s.heap [] := va_S.rf
  have hl : lv_has ls 7 [(0, .ref q), (1, .int x), (2, .int y)] := hl
  refine lv_iload_n hx hb d_X_distanceFrom_0 rfl (lv_at hl 1 rfl) ?_
  refine lv_aload_n hx hb d_X_distanceFrom_1 rfl (lv_at hl 0 rfl) ?_
  refine gf_X_15 C0 hH hq1 rfl d_X_distanceFrom_2 ?_
  refine lv_aload_n hx hb d_X_distanceFrom_5 rfl (lv_at hl 0 rfl) ?_
  refine gf_X_21 C0 hH hq1 rfl d_X_distanceFrom_6 ?_
  refine pu_v (runS C0 (k_X_wayTo l G w x a.2.1 a.2.2.2.1) (cs_X_27 C0 ⟨by decide, by decide⟩) hH hS rfl hl.1 rfl (lv_room (Nat.le_of_ble_eq_true rfl)) d_X_distanceFrom_9 ⟨Nat.zero_le _, Nat.zero_le _⟩) ?_
  refine lv_lstore_n (lv' := [(3, .long (way x a.2.1 a.2.2.2.1)), (0, .ref q), (1, .int x), (2, .int y)]) hx hb d_X_distanceFrom_12 rfl hl (by decide) rfl (fun ls hl => ?_)
  refine lv_iload_n hx hb d_X_distanceFrom_13 rfl (lv_at hl 3 rfl) ?_
  refine lv_aload_n hx hb d_X_distanceFrom_14 rfl (lv_at hl 1 rfl) ?_
  refine gf_X_18 C0 hH hq1 rfl d_X_distanceFrom_15 ?_
  refine lv_aload_n hx hb d_X_distanceFrom_18 rfl (lv_at hl 1 rfl) ?_
  refine gf_X_24 C0 hH hq1 rfl d_X_distanceFrom_19 ?_
  refine pu_v (runS C0 (k_X_wayTo l G w y a.2.2.1 a.2.2.2.2) (cs_X_27 C0 ⟨by decide, by decide⟩) hH hS rfl hl.1 rfl (lv_room (Nat.le_of_ble_eq_true rfl)) d_X_distanceFrom_22 ⟨Nat.zero_le _, Nat.zero_le _⟩) ?_
  refine lv_lstore (lv' := [(5, .long (way y a.2.2.1 a.2.2.2.2)), (3, .long (way x a.2.1 a.2.2.2.1)), (0, .ref q), (1, .int x), (2, .int y)]) hx hb d_X_distanceFrom_25 hl (by decide) rfl (fun ls hl => ?_)
  refine lv_lload_n hx hb d_X_distanceFrom_27 rfl (lv_at hl 1 rfl) ?_
  refine lv_lload_n hx hb d_X_distanceFrom_28 rfl (lv_at hl 1 rfl) ?_
  refine lv_lmul hx hb d_X_distanceFrom_29 ?_
  refine lv_lload hx hb d_X_distanceFrom_30 (lv_at hl 0 rfl) ?_
  refine lv_lload hx hb d_X_distanceFrom_32 (lv_at hl 0 rfl) ?_
  refine lv_lmul hx hb d_X_distanceFrom_34 ?_
  refine lv_ladd hx hb d_X_distanceFrom_35 ?_
  exact W.lret hx hb hr (fun t ht _ => ⟨rfl, ht⟩) (fun _ h => by cases h) d_X_distanceFrom_36 (hlocks := C0.2.2.2.2.2.2)

set_option maxHeartbeats 4000000 in
set_option maxRecDepth 100000 in
theorem k_X_bound (l : Launch) (G : Gl) (w : World) {q : Nat} {a : Bx} (k : Int32) (hq1 : w q = some (.inr (1, bxf a))) :
    PuM l y_X_bound ws_X_bound 0 G w [.ref q, .int k] (some (.int (bnd a k))) := by
  refine met_ent (by decide +kernel) (Nat.le_of_ble_eq_true rfl) (fun p e s m below meth c ls C0 hr hin hH hl => ?_)
  have hx := C0.1
  have hb := C0.2.1
  have hS : va_S (gA G) s.heap s.heap [] := va_S.rf
  have hl : lv_has ls 2 [(0, .ref q), (1, .int k)] := hl
  refine lv_iload_n hx hb d_X_bound_0 rfl (lv_at hl 1 rfl) ?_
  by_cases h0 : k = 0
  · subst h0
    refine lv_tableIn (off := 27) (tgt := 28) hx hb d_X_bound_1 (by decide) (by decide) (by decide) (by decide) ?_
    refine lv_aload_n hx hb d_X_bound_28 rfl (lv_at hl 0 rfl) ?_
    refine gf_X_15 C0 hH hq1 rfl d_X_bound_29 ?_
    exact W.iret hx hb hr (fun t ht _ => ⟨rfl, ht⟩) (fun _ h => by cases h) d_X_bound_32 (hlocks := C0.2.2.2.2.2.2)
  by_cases h1 : k = 1
  · subst h1
    refine lv_tableIn (off := 32) (tgt := 33) hx hb d_X_bound_1 (by decide) (by decide) (by decide) (by decide) ?_
    refine lv_aload_n hx hb d_X_bound_33 rfl (lv_at hl 0 rfl) ?_
    refine gf_X_18 C0 hH hq1 rfl d_X_bound_34 ?_
    exact W.iret hx hb hr (fun t ht _ => ⟨rfl, ht⟩) (fun _ h => by cases h) d_X_bound_37 (hlocks := C0.2.2.2.2.2.2)
  by_cases h2 : k = 2
  · subst h2
    refine lv_tableIn (off := 37) (tgt := 38) hx hb d_X_bound_1 (by decide) (by decide) (by decide) (by decide) ?_
    refine lv_aload_n hx hb d_X_bound_38 rfl (lv_at hl 0 rfl) ?_
    refine gf_X_21 C0 hH hq1 rfl d_X_bound_39 ?_
    exact W.iret hx hb hr (fun t ht _ => ⟨rfl, ht⟩) (fun _ h => by cases h) d_X_bound_42 (hlocks := C0.2.2.2.2.2.2)
  refine lv_tableOut (tgt := 43) hx hb d_X_bound_1 (by have a0 := tIne h0; have a1 := tIne h1; have a2 := tIne h2; rw [tI0] at a0; rw [tI1] at a1; rw [tI2] at a2; omega) (by decide) ?_
  refine lv_aload_n hx hb d_X_bound_43 rfl (lv_at hl 0 rfl) ?_
  refine gf_X_24 C0 hH hq1 rfl d_X_bound_44 ?_
  exact W.iret hx hb hr (fun t ht _ => ⟨by unfold bnd; rw [if_neg h0, if_neg h1, if_neg h2], ht⟩) (fun _ h => by cases h) d_X_bound_47 (hlocks := C0.2.2.2.2.2.2)

set_option maxHeartbeats 4000000 in
set_option maxRecDepth 100000 in
theorem k_B_fits (l : Launch) (G : Gl) (w : World) {x y : Nat} {a b : Bx} (k : Int32) (hx1 : w x = some (.inr (1, bxf a))) (hy1 : w y = some (.inr (1, bxf b))) :
    PuM l y_B_fits ws_B_fits 1 G w [.int k, .ref x, .ref y] (some (.int (b01 (fitsP k a b)))) := by
  refine met_ent (by decide +kernel) (Nat.le_of_ble_eq_true rfl) (fun p e s m below meth c ls C0 hr hin hH hl => ?_)
  have hx := C0.1
  have hb := C0.2.1
  have hS : va_S (gA G) s.heap s.heap [] := va_S.rf
  have hl : lv_has ls 3 [(0, .int k), (1, .ref x), (2, .ref y)] := hl
  refine lv_iload_n hx hb d_B_fits_0 rfl (lv_at hl 0 rfl) ?_
  by_cases h0 : k = 0
  · subst h0
    refine lv_lookup (off := 27) (tgt := 28) hx hb d_B_fits_1 (by decide) (by decide) (by decide) ?_
    refine lv_aload_n hx hb d_B_fits_28 rfl (lv_at hl 1 rfl) ?_
    refine lv_aload_n hx hb d_B_fits_29 rfl (lv_at hl 2 rfl) ?_
    refine pu_v (runVN C0 (k_X_meets l G w hx1 hy1) (cs_B_114 C0 ⟨by decide, by decide⟩) hH hS (hd_recv C0.hK hH rfl hx1) rfl hl.1 rfl (lv_room (Nat.le_of_ble_eq_true rfl)) d_B_fits_30 ⟨Nat.zero_le _, Nat.zero_le _⟩) ?_
    exact W.zret hx hb hr (b01_nar) (fun t ht _ => ⟨rfl, ht⟩) (fun _ h => by cases h) d_B_fits_33 (hlocks := C0.2.2.2.2.2.2)
  by_cases h1 : k = 1
  · subst h1
    refine lv_lookup (off := 33) (tgt := 34) hx hb d_B_fits_1 (by decide) (by decide) (by decide) ?_
    refine lv_aload_n hx hb d_B_fits_34 rfl (lv_at hl 1 rfl) ?_
    refine lv_aload_n hx hb d_B_fits_35 rfl (lv_at hl 2 rfl) ?_
    refine pu_v (runVN C0 (k_X_liesIn l G w hx1 hy1) (cs_B_161 C0 ⟨by decide, by decide⟩) hH hS (hd_recv C0.hK hH rfl hx1) rfl hl.1 rfl (lv_room (Nat.le_of_ble_eq_true rfl)) d_B_fits_36 ⟨Nat.zero_le _, Nat.zero_le _⟩) ?_
    exact W.zret hx hb hr (b01_nar) (fun t ht _ => ⟨rfl, ht⟩) (fun _ h => by cases h) d_B_fits_39 (hlocks := C0.2.2.2.2.2.2)
  refine lv_lookup (off := 39) (tgt := 40) hx hb d_B_fits_1 (by decide) (by have a0 := tIne h0; have a1 := tIne h1; rw [tI0] at a0; rw [tI1] at a1; simp only [Op.lookupswitch.offset]; rw [if_neg (fun h => a0 h.symm), if_neg (fun h => a1 h.symm)]) (by decide) ?_
  refine lv_aload_n hx hb d_B_fits_40 rfl (lv_at hl 2 rfl) ?_
  refine lv_aload_n hx hb d_B_fits_41 rfl (lv_at hl 1 rfl) ?_
  refine pu_v (runVN C0 (k_X_liesIn l G w hy1 hx1) (cs_B_161 C0 ⟨by decide, by decide⟩) hH hS (hd_recv C0.hK hH rfl hy1) rfl hl.1 rfl (lv_room (Nat.le_of_ble_eq_true rfl)) d_B_fits_42 ⟨Nat.zero_le _, Nat.zero_le _⟩) ?_
  exact W.zret hx hb hr (b01_nar) (fun t ht _ => ⟨by unfold fitsP; rw [if_neg h0, if_neg h1], ht⟩) (fun _ h => by cases h) d_B_fits_45 (hlocks := C0.2.2.2.2.2.2)

set_option maxHeartbeats 4000000 in
set_option maxRecDepth 100000 in
theorem k_B_isLeast (l : Launch) (G : Gl) (w : World) (k : Int32) :
    PuM l y_B_isLeast ws_B_isLeast 0 G w [.int k] (some (.int (b01 (k = 0 ∨ k = 1)))) := by
  refine met_ent (by decide +kernel) (Nat.le_of_ble_eq_true rfl) (fun p e s m below meth c ls C0 hr hin hH hl => ?_)
  have hx := C0.1
  have hb := C0.2.1
  have hS : va_S (gA G) s.heap s.heap [] := va_S.rf
  have hl : lv_has ls 1 [(0, .int k)] := hl
  refine lv_iload_n hx hb d_B_isLeast_0 rfl (lv_at hl 0 rfl) ?_
  refine lv_if_eq (tgt := 9) hx hb d_B_isLeast_1 (by decide) (fun c_1 => ?_) (fun c_1 => ?_)
  · refine lv_iconst (v := 1) hx hb d_B_isLeast_9 (by decide) ?_
    refine lv_goto (tgt := 14) hx hb d_B_isLeast_10 (by decide) ?_
    exact W.zret hx hb hr rfl (fun t ht _ => ⟨congrArg (fun z => Outcome.returned (some (Value.int z))) (b01_t (Or.inl c_1)).symm, ht⟩) (fun _ h => by cases h) d_B_isLeast_14 (hlocks := C0.2.2.2.2.2.2)
  · refine lv_iload_n hx hb d_B_isLeast_4 rfl (lv_at hl 0 rfl) ?_
    refine lv_iconst (v := 1) hx hb d_B_isLeast_5 (by decide) ?_
    refine lv_icmp_ne (tgt := 13) hx hb d_B_isLeast_6 (by decide) (fun c_6 => ?_) (fun c_6 => ?_)
    · refine lv_iconst (v := 0) hx hb d_B_isLeast_13 (by decide) ?_
      exact W.zret hx hb hr rfl (fun t ht _ => ⟨congrArg (fun z => Outcome.returned (some (Value.int z))) (b01_f (fun h => h.elim c_1 c_6)).symm, ht⟩) (fun _ h => by cases h) d_B_isLeast_14 (hlocks := C0.2.2.2.2.2.2)
    · refine lv_iconst (v := 1) hx hb d_B_isLeast_9 (by decide) ?_
      refine lv_goto (tgt := 14) hx hb d_B_isLeast_10 (by decide) ?_
      exact W.zret hx hb hr rfl (fun t ht _ => ⟨congrArg (fun z => Outcome.returned (some (Value.int z))) (b01_t (Or.inr c_6)).symm, ht⟩) (fun _ h => by cases h) d_B_isLeast_14 (hlocks := C0.2.2.2.2.2.2)

set_option maxHeartbeats 4000000 in
set_option maxRecDepth 100000 in
theorem k_B_requireNumber (l : Launch) (G : Gl) (w : World) (b : Int32) (h : okN b) :
    PuM l y_B_requireNumber ws_B_requireNumber 0 G w [.int b] none := by
  refine met_ent (by decide +kernel) (Nat.le_of_ble_eq_true rfl) (fun p e s m below meth c ls C0 hr hin hH hl => ?_)
  have hx := C0.1
  have hb := C0.2.1
  have hS : va_S (gA G) s.heap s.heap [] := va_S.rf
  have hl : lv_has ls 1 [(0, .int b)] := hl
  refine lv_iload_n hx hb d_B_requireNumber_0 rfl (lv_at hl 0 rfl) ?_
  refine lv_if_lt (tgt := 11) hx hb d_B_requireNumber_1 (by decide) (fun c_1 => ?_) (fun c_1 => ?_)
  · exact absurd h (by unfold okN; revert c_1; simp only [Int32.le_iff_toInt_le, Int32.lt_iff_toInt_lt, tI9, tIm9, tI4096, tI3, tI2, tI1, tI0]; omega)
  · refine lv_iload_n hx hb d_B_requireNumber_4 rfl (lv_at hl 0 rfl) ?_
    refine lv_sipush (v := 4096) hx hb d_B_requireNumber_5 (by decide) ?_
    refine lv_icmp_lt (tgt := 21) hx hb d_B_requireNumber_8 (by decide) (fun c_8 => ?_) (fun c_8 => ?_)
    · exact W.vret hx hb hr (fun t ht _ => ⟨rfl, ht⟩) (fun _ h => by cases h) d_B_requireNumber_21 (hlocks := C0.2.2.2.2.2.2)
    · exact absurd h (by unfold okN; revert c_8 c_1; simp only [Int32.le_iff_toInt_le, Int32.lt_iff_toInt_lt, tI9, tIm9, tI4096, tI3, tI2, tI1, tI0]; omega)

set_option maxHeartbeats 4000000 in
set_option maxRecDepth 100000 in
theorem t_B_requireNumber (l : Launch) (hlt : l.stackTraces = false) (G : Gl) (w : World) (b : Int32) (h : ¬ (okN b)) :
    ThM l y_B_requireNumber ws_B_requireNumber 6 G w [.int b] "java/lang/IndexOutOfBoundsException" := by
  refine th_ent (by decide +kernel) (Nat.le_of_ble_eq_true rfl) (fun p e s m below meth c ls C0 ht hH hl => ?_)
  have hx := C0.1
  have hb := C0.2.1
  have hS : va_S (gA G) s.heap s.heap [] := va_S.rf
  have hl : lv_has ls 1 [(0, .int b)] := hl
  refine lv_iload_n hx hb d_B_requireNumber_0 rfl (lv_at hl 0 rfl) ?_
  refine lv_if_lt (tgt := 11) hx hb d_B_requireNumber_1 (by decide) (fun c_1 => ?_) (fun c_1 => ?_)
  · exact th_throw (text := "no such number of a box") hlt C0 (by decide +kernel) mw_154 mw_9 at_io og_io (by decide +kernel) hl.1 d_B_requireNumber_11 d_B_requireNumber_14 d_B_requireNumber_15 d_B_requireNumber_17 d_B_requireNumber_20 ht (by decide)
  · refine lv_iload_n hx hb d_B_requireNumber_4 rfl (lv_at hl 0 rfl) ?_
    refine lv_sipush (v := 4096) hx hb d_B_requireNumber_5 (by decide) ?_
    refine lv_icmp_lt (tgt := 21) hx hb d_B_requireNumber_8 (by decide) (fun c_8 => ?_) (fun c_8 => ?_)
    · exact absurd (by unfold okN; revert c_8 c_1; simp only [Int32.le_iff_toInt_le, Int32.lt_iff_toInt_lt, tI9, tIm9, tI4096, tI3, tI2, tI1, tI0]; omega) h
    · exact th_throw (text := "no such number of a box") hlt C0 (by decide +kernel) mw_154 mw_9 at_io og_io (by decide +kernel) hl.1 d_B_requireNumber_11 d_B_requireNumber_14 d_B_requireNumber_15 d_B_requireNumber_17 d_B_requireNumber_20 ht (by decide)

set_option maxHeartbeats 4000000 in
set_option maxRecDepth 100000 in
theorem k_B_requirePlace (l : Launch) (G : Gl) (w : World) (x y : Int32) (h : okP x y) :
    PuM l y_B_requirePlace ws_B_requirePlace 0 G w [.int x, .int y] none := by
  refine met_ent (by decide +kernel) (Nat.le_of_ble_eq_true rfl) (fun p e s m below meth c ls C0 hr hin hH hl => ?_)
  have hx := C0.1
  have hb := C0.2.1
  have hS : va_S (gA G) s.heap s.heap [] := va_S.rf
  have hl : lv_has ls 2 [(0, .int x), (1, .int y)] := hl
  refine lv_iload_n hx hb d_B_requirePlace_0 rfl (lv_at hl 0 rfl) ?_
  refine W.eq (g2 := F0 m 1 ls _) rfl (W.ldc hx hb C0.2.2.2.1 (C0.2.2.2.2.1 _ mw_228) rfl d_B_requirePlace_1 ?_)
  refine W.eq (g2 := F0 m 3 ls [.int (-1000000000), .int x]) rfl ?_
  refine lv_icmp_lt (tgt := 24) hx hb d_B_requirePlace_3 (by decide) (fun c_3 => ?_) (fun c_3 => ?_)
  · exact absurd h (by unfold okP okC; revert c_3; simp only [Int32.le_iff_toInt_le, Int32.lt_iff_toInt_lt, tI9, tIm9, tI4096, tI3, tI2, tI1, tI0]; omega)
  · refine lv_iload_n hx hb d_B_requirePlace_6 rfl (lv_at hl 0 rfl) ?_
    refine W.eq (g2 := F0 m 7 ls _) rfl (W.ldc hx hb C0.2.2.2.1 (C0.2.2.2.2.1 _ mw_229) rfl d_B_requirePlace_7 ?_)
    refine W.eq (g2 := F0 m 9 ls [.int 1000000000, .int x]) rfl ?_
    refine lv_icmp_gt (tgt := 24) hx hb d_B_requirePlace_9 (by decide) (fun c_9 => ?_) (fun c_9 => ?_)
    · exact absurd h (by unfold okP okC; revert c_9 c_3; simp only [Int32.le_iff_toInt_le, Int32.lt_iff_toInt_lt, tI9, tIm9, tI4096, tI3, tI2, tI1, tI0]; omega)
    · refine lv_iload_n hx hb d_B_requirePlace_12 rfl (lv_at hl 1 rfl) ?_
      refine W.eq (g2 := F0 m 13 ls _) rfl (W.ldc hx hb C0.2.2.2.1 (C0.2.2.2.2.1 _ mw_228) rfl d_B_requirePlace_13 ?_)
      refine W.eq (g2 := F0 m 15 ls [.int (-1000000000), .int y]) rfl ?_
      refine lv_icmp_lt (tgt := 24) hx hb d_B_requirePlace_15 (by decide) (fun c_15 => ?_) (fun c_15 => ?_)
      · exact absurd h (by unfold okP okC; revert c_15 c_9 c_3; simp only [Int32.le_iff_toInt_le, Int32.lt_iff_toInt_lt, tI9, tIm9, tI4096, tI3, tI2, tI1, tI0]; omega)
      · refine lv_iload_n hx hb d_B_requirePlace_18 rfl (lv_at hl 1 rfl) ?_
        refine W.eq (g2 := F0 m 19 ls _) rfl (W.ldc hx hb C0.2.2.2.1 (C0.2.2.2.2.1 _ mw_229) rfl d_B_requirePlace_19 ?_)
        refine W.eq (g2 := F0 m 21 ls [.int 1000000000, .int y]) rfl ?_
        refine lv_icmp_le (tgt := 34) hx hb d_B_requirePlace_21 (by decide) (fun c_21 => ?_) (fun c_21 => ?_)
        · exact W.vret hx hb hr (fun t ht _ => ⟨rfl, ht⟩) (fun _ h => by cases h) d_B_requirePlace_34 (hlocks := C0.2.2.2.2.2.2)
        · exact absurd h (by unfold okP okC; revert c_21 c_15 c_9 c_3; simp only [Int32.le_iff_toInt_le, Int32.lt_iff_toInt_lt, tI9, tIm9, tI4096, tI3, tI2, tI1, tI0]; omega)

set_option maxHeartbeats 4000000 in
set_option maxRecDepth 100000 in
theorem t_B_requirePlace (l : Launch) (hlt : l.stackTraces = false) (G : Gl) (w : World) (x y : Int32) (h : ¬ (okP x y)) :
    ThM l y_B_requirePlace ws_B_requirePlace 6 G w [.int x, .int y] "java/lang/IllegalArgumentException" := by
  refine th_ent (by decide +kernel) (Nat.le_of_ble_eq_true rfl) (fun p e s m below meth c ls C0 ht hH hl => ?_)
  have hx := C0.1
  have hb := C0.2.1
  have hS : va_S (gA G) s.heap s.heap [] := va_S.rf
  have hl : lv_has ls 2 [(0, .int x), (1, .int y)] := hl
  refine lv_iload_n hx hb d_B_requirePlace_0 rfl (lv_at hl 0 rfl) ?_
  refine W.eq (g2 := F0 m 1 ls _) rfl (W.ldc hx hb C0.2.2.2.1 (C0.2.2.2.2.1 _ mw_228) rfl d_B_requirePlace_1 ?_)
  refine W.eq (g2 := F0 m 3 ls [.int (-1000000000), .int x]) rfl ?_
  refine lv_icmp_lt (tgt := 24) hx hb d_B_requirePlace_3 (by decide) (fun c_3 => ?_) (fun c_3 => ?_)
  · exact th_throw (text := "not from -1000000000 to 1000000000") hlt C0 (by decide +kernel) mw_230 mw_10 at_ia og_ia (by decide +kernel) hl.1 d_B_requirePlace_24 d_B_requirePlace_27 d_B_requirePlace_28 d_B_requirePlace_30 d_B_requirePlace_33 ht (by decide)
  · refine lv_iload_n hx hb d_B_requirePlace_6 rfl (lv_at hl 0 rfl) ?_
    refine W.eq (g2 := F0 m 7 ls _) rfl (W.ldc hx hb C0.2.2.2.1 (C0.2.2.2.2.1 _ mw_229) rfl d_B_requirePlace_7 ?_)
    refine W.eq (g2 := F0 m 9 ls [.int 1000000000, .int x]) rfl ?_
    refine lv_icmp_gt (tgt := 24) hx hb d_B_requirePlace_9 (by decide) (fun c_9 => ?_) (fun c_9 => ?_)
    · exact th_throw (text := "not from -1000000000 to 1000000000") hlt C0 (by decide +kernel) mw_230 mw_10 at_ia og_ia (by decide +kernel) hl.1 d_B_requirePlace_24 d_B_requirePlace_27 d_B_requirePlace_28 d_B_requirePlace_30 d_B_requirePlace_33 ht (by decide)
    · refine lv_iload_n hx hb d_B_requirePlace_12 rfl (lv_at hl 1 rfl) ?_
      refine W.eq (g2 := F0 m 13 ls _) rfl (W.ldc hx hb C0.2.2.2.1 (C0.2.2.2.2.1 _ mw_228) rfl d_B_requirePlace_13 ?_)
      refine W.eq (g2 := F0 m 15 ls [.int (-1000000000), .int y]) rfl ?_
      refine lv_icmp_lt (tgt := 24) hx hb d_B_requirePlace_15 (by decide) (fun c_15 => ?_) (fun c_15 => ?_)
      · exact th_throw (text := "not from -1000000000 to 1000000000") hlt C0 (by decide +kernel) mw_230 mw_10 at_ia og_ia (by decide +kernel) hl.1 d_B_requirePlace_24 d_B_requirePlace_27 d_B_requirePlace_28 d_B_requirePlace_30 d_B_requirePlace_33 ht (by decide)
      · refine lv_iload_n hx hb d_B_requirePlace_18 rfl (lv_at hl 1 rfl) ?_
        refine W.eq (g2 := F0 m 19 ls _) rfl (W.ldc hx hb C0.2.2.2.1 (C0.2.2.2.2.1 _ mw_229) rfl d_B_requirePlace_19 ?_)
        refine W.eq (g2 := F0 m 21 ls [.int 1000000000, .int y]) rfl ?_
        refine lv_icmp_le (tgt := 34) hx hb d_B_requirePlace_21 (by decide) (fun c_21 => ?_) (fun c_21 => ?_)
        · exact absurd (by unfold okP okC; revert c_21 c_15 c_9 c_3; simp only [Int32.le_iff_toInt_le, Int32.lt_iff_toInt_lt, tI9, tIm9, tI4096, tI3, tI2, tI1, tI0]; omega) h
        · exact th_throw (text := "not from -1000000000 to 1000000000") hlt C0 (by decide +kernel) mw_230 mw_10 at_ia og_ia (by decide +kernel) hl.1 d_B_requirePlace_24 d_B_requirePlace_27 d_B_requirePlace_28 d_B_requirePlace_30 d_B_requirePlace_33 ht (by decide)

set_option maxHeartbeats 4000000 in
set_option maxRecDepth 100000 in
theorem k_B_requireBound (l : Launch) (G : Gl) (w : World) (k : Int32) (h : okW k) :
    PuM l y_B_requireBound ws_B_requireBound 0 G w [.int k] none := by
  refine met_ent (by decide +kernel) (Nat.le_of_ble_eq_true rfl) (fun p e s m below meth c ls C0 hr hin hH hl => ?_)
  have hx := C0.1
  have hb := C0.2.1
  have hS : va_S (gA G) s.heap s.heap [] := va_S.rf
  have hl : lv_has ls 1 [(0, .int k)] := hl
  refine lv_iload_n hx hb d_B_requireBound_0 rfl (lv_at hl 0 rfl) ?_
  refine lv_if_lt (tgt := 9) hx hb d_B_requireBound_1 (by decide) (fun c_1 => ?_) (fun c_1 => ?_)
  · exact absurd h (by unfold okW; revert c_1; simp only [Int32.le_iff_toInt_le, Int32.lt_iff_toInt_lt, tI9, tIm9, tI4096, tI3, tI2, tI1, tI0]; omega)
  · refine lv_iload_n hx hb d_B_requireBound_4 rfl (lv_at hl 0 rfl) ?_
    refine lv_iconst (v := 3) hx hb d_B_requireBound_5 (by decide) ?_
    refine lv_icmp_le (tgt := 19) hx hb d_B_requireBound_6 (by decide) (fun c_6 => ?_) (fun c_6 => ?_)
    · exact W.vret hx hb hr (fun t ht _ => ⟨rfl, ht⟩) (fun _ h => by cases h) d_B_requireBound_19 (hlocks := C0.2.2.2.2.2.2)
    · exact absurd h (by unfold okW; revert c_6 c_1; simp only [Int32.le_iff_toInt_le, Int32.lt_iff_toInt_lt, tI9, tIm9, tI4096, tI3, tI2, tI1, tI0]; omega)

set_option maxHeartbeats 4000000 in
set_option maxRecDepth 100000 in
theorem t_B_requireBound (l : Launch) (hlt : l.stackTraces = false) (G : Gl) (w : World) (k : Int32) (h : ¬ (okW k)) :
    ThM l y_B_requireBound ws_B_requireBound 6 G w [.int k] "java/lang/IndexOutOfBoundsException" := by
  refine th_ent (by decide +kernel) (Nat.le_of_ble_eq_true rfl) (fun p e s m below meth c ls C0 ht hH hl => ?_)
  have hx := C0.1
  have hb := C0.2.1
  have hS : va_S (gA G) s.heap s.heap [] := va_S.rf
  have hl : lv_has ls 1 [(0, .int k)] := hl
  refine lv_iload_n hx hb d_B_requireBound_0 rfl (lv_at hl 0 rfl) ?_
  refine lv_if_lt (tgt := 9) hx hb d_B_requireBound_1 (by decide) (fun c_1 => ?_) (fun c_1 => ?_)
  · exact th_throw (text := "what is none of 0 .. 3") hlt C0 (by decide +kernel) mw_154 mw_9 at_io og_io (by decide +kernel) hl.1 d_B_requireBound_9 d_B_requireBound_12 d_B_requireBound_13 d_B_requireBound_15 d_B_requireBound_18 ht (by decide)
  · refine lv_iload_n hx hb d_B_requireBound_4 rfl (lv_at hl 0 rfl) ?_
    refine lv_iconst (v := 3) hx hb d_B_requireBound_5 (by decide) ?_
    refine lv_icmp_le (tgt := 19) hx hb d_B_requireBound_6 (by decide) (fun c_6 => ?_) (fun c_6 => ?_)
    · exact absurd (by unfold okW; revert c_6 c_1; simp only [Int32.le_iff_toInt_le, Int32.lt_iff_toInt_lt, tI9, tIm9, tI4096, tI3, tI2, tI1, tI0]; omega) h
    · exact th_throw (text := "what is none of 0 .. 3") hlt C0 (by decide +kernel) mw_154 mw_9 at_io og_io (by decide +kernel) hl.1 d_B_requireBound_9 d_B_requireBound_12 d_B_requireBound_13 d_B_requireBound_15 d_B_requireBound_18 ht (by decide)

set_option maxHeartbeats 4000000 in
set_option maxRecDepth 100000 in
theorem k_B_requireBounds (l : Launch) (G : Gl) (w : World) (lx ly hx1 hy1 : Int32) (h : okB lx ly hx1 hy1) :
    PuM l y_B_requireBounds ws_B_requireBounds 1 G w [.int lx, .int ly, .int hx1, .int hy1] none := by
  refine met_ent (by decide +kernel) (Nat.le_of_ble_eq_true rfl) (fun p e s m below meth c ls C0 hr hin hH hl => ?_)
  have hx := C0.1
  have hb := C0.2.1
  have hS : va_S (gA G) s.heap s.heap [] := va_S.rf
  have hl : lv_has ls 4 [(0, .int lx), (1, .int ly), (2, .int hx1), (3, .int hy1)] := hl
  refine lv_iload_n hx hb d_B_requireBounds_0 rfl (lv_at hl 0 rfl) ?_
  refine lv_iload_n hx hb d_B_requireBounds_1 rfl (lv_at hl 1 rfl) ?_
  refine pu_n (runS C0 (k_B_requirePlace l G w lx ly h.1) (cs_B_90 C0 ⟨by decide, by decide⟩) hH hS rfl hl.1 rfl (lv_room (Nat.le_of_ble_eq_true rfl)) d_B_requireBounds_2 ⟨Nat.zero_le _, Nat.zero_le _⟩) ?_
  refine lv_iload_n hx hb d_B_requireBounds_5 rfl (lv_at hl 2 rfl) ?_
  refine lv_iload_n hx hb d_B_requireBounds_6 rfl (lv_at hl 3 rfl) ?_
  refine pu_n (runS C0 (k_B_requirePlace l G w hx1 hy1 h.2.1) (cs_B_90 C0 ⟨by decide, by decide⟩) hH hS rfl hl.1 rfl (lv_room (Nat.le_of_ble_eq_true rfl)) d_B_requireBounds_7 ⟨Nat.zero_le _, Nat.zero_le _⟩) ?_
  refine lv_iload_n hx hb d_B_requireBounds_10 rfl (lv_at hl 2 rfl) ?_
  refine lv_iload_n hx hb d_B_requireBounds_11 rfl (lv_at hl 0 rfl) ?_
  refine lv_icmp_lt (tgt := 20) hx hb d_B_requireBounds_12 (by decide) (fun c_12 => ?_) (fun c_12 => ?_)
  · exact absurd h.2.2 (by revert c_12; simp only [Int32.le_iff_toInt_le, Int32.lt_iff_toInt_lt, tI9, tIm9, tI4096, tI3, tI2, tI1, tI0]; omega)
  · refine lv_iload_n hx hb d_B_requireBounds_15 rfl (lv_at hl 3 rfl) ?_
    refine lv_iload_n hx hb d_B_requireBounds_16 rfl (lv_at hl 1 rfl) ?_
    refine lv_icmp_ge (tgt := 30) hx hb d_B_requireBounds_17 (by decide) (fun c_17 => ?_) (fun c_17 => ?_)
    · exact W.vret hx hb hr (fun t ht _ => ⟨rfl, ht⟩) (fun _ h => by cases h) d_B_requireBounds_30 (hlocks := C0.2.2.2.2.2.2)
    · exact absurd h.2.2 (by revert c_17 c_12; simp only [Int32.le_iff_toInt_le, Int32.lt_iff_toInt_lt, tI9, tIm9, tI4096, tI3, tI2, tI1, tI0]; omega)

set_option maxHeartbeats 4000000 in
set_option maxRecDepth 100000 in
theorem t_B_requireBounds (l : Launch) (hlt : l.stackTraces = false) (G : Gl) (w : World) (lx ly hx1 hy1 : Int32) (h : ¬ okB lx ly hx1 hy1) :
    ThM l y_B_requireBounds ws_B_requireBounds 7 G w [.int lx, .int ly, .int hx1, .int hy1] "java/lang/IllegalArgumentException" := by
  refine th_ent (by decide +kernel) (Nat.le_of_ble_eq_true rfl) (fun p e s m below meth c ls C0 ht hH hl => ?_)
  have hx := C0.1
  have hb := C0.2.1
  have hS : va_S (gA G) s.heap s.heap [] := va_S.rf
  have hl : lv_has ls 4 [(0, .int lx), (1, .int ly), (2, .int hx1), (3, .int hy1)] := hl
  refine lv_iload_n hx hb d_B_requireBounds_0 rfl (lv_at hl 0 rfl) ?_
  refine lv_iload_n hx hb d_B_requireBounds_1 rfl (lv_at hl 1 rfl) ?_
  by_cases g_2 : okP lx ly
  · refine pu_n (runS C0 (k_B_requirePlace l G w lx ly g_2) (cs_B_90 C0 ⟨by decide, by decide⟩) hH hS rfl hl.1 rfl (lv_room (Nat.le_of_ble_eq_true rfl)) d_B_requireBounds_2 ⟨Nat.zero_le _, Nat.zero_le _⟩) ?_
    refine lv_iload_n hx hb d_B_requireBounds_5 rfl (lv_at hl 2 rfl) ?_
    refine lv_iload_n hx hb d_B_requireBounds_6 rfl (lv_at hl 3 rfl) ?_
    by_cases g_7 : okP hx1 hy1
    · refine pu_n (runS C0 (k_B_requirePlace l G w hx1 hy1 g_7) (cs_B_90 C0 ⟨by decide, by decide⟩) hH hS rfl hl.1 rfl (lv_room (Nat.le_of_ble_eq_true rfl)) d_B_requireBounds_7 ⟨Nat.zero_le _, Nat.zero_le _⟩) ?_
      refine lv_iload_n hx hb d_B_requireBounds_10 rfl (lv_at hl 2 rfl) ?_
      refine lv_iload_n hx hb d_B_requireBounds_11 rfl (lv_at hl 0 rfl) ?_
      refine lv_icmp_lt (tgt := 20) hx hb d_B_requireBounds_12 (by decide) (fun c_12 => ?_) (fun c_12 => ?_)
      · exact th_throw (text := "a greatest bound is below its least") hlt C0 (by decide +kernel) mw_230 mw_10 at_ia og_ia (by decide +kernel) hl.1 d_B_requireBounds_20 d_B_requireBounds_23 d_B_requireBounds_24 d_B_requireBounds_26 d_B_requireBounds_29 ht (by decide)
      · refine lv_iload_n hx hb d_B_requireBounds_15 rfl (lv_at hl 3 rfl) ?_
        refine lv_iload_n hx hb d_B_requireBounds_16 rfl (lv_at hl 1 rfl) ?_
        refine lv_icmp_ge (tgt := 30) hx hb d_B_requireBounds_17 (by decide) (fun c_17 => ?_) (fun c_17 => ?_)
        · exact absurd ⟨g_2, g_7, by revert c_17 c_12; simp only [Int32.le_iff_toInt_le, Int32.lt_iff_toInt_lt, tI9, tIm9, tI4096, tI3, tI2, tI1, tI0]; omega⟩ h
        · exact th_throw (text := "a greatest bound is below its least") hlt C0 (by decide +kernel) mw_230 mw_10 at_ia og_ia (by decide +kernel) hl.1 d_B_requireBounds_20 d_B_requireBounds_23 d_B_requireBounds_24 d_B_requireBounds_26 d_B_requireBounds_29 ht (by decide)
    · exact th_out ht C0.2.2.2.2.2.2 (xrunS C0 (t_B_requirePlace l hlt G w hx1 hy1 g_7) (cs_B_90 C0 ⟨by decide, by decide⟩) hH hS rfl hl.1 rfl (lv_room (Nat.le_of_ble_eq_true rfl)) d_B_requireBounds_7 ⟨Nat.le_refl _, Nat.le_refl _⟩)
  · exact th_out ht C0.2.2.2.2.2.2 (xrunS C0 (t_B_requirePlace l hlt G w lx ly g_2) (cs_B_90 C0 ⟨by decide, by decide⟩) hH hS rfl hl.1 rfl (lv_room (Nat.le_of_ble_eq_true rfl)) d_B_requireBounds_2 ⟨Nat.le_refl _, Nat.le_refl _⟩)
