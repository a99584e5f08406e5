/-! Leaves: what the library's small members and the boxes' own methods answer -/
section PuRows
variable {p : Program} {l : Launch} {e : Env} {R : Room} {s : State} {m : MethodId} {args : Array Value} {below : List Frame} {meth : Method} {c : Code} {H : Heap} {locs : List Loc} {cells slots : Nat} {Q : State → Prop}
variable {st0 rest : List Value} {pc : Nat} {ls : Array Slot} {as0 : Array Value}
theorem pu_v {v : Value} (hr : va_Run p l e R s m args below meth c H locs cells slots 0 0 (F0 m pc ls st0) rest (PuQ (some v) as0) (fun _ => False))
    (kk : W p l e R s m args below meth c H locs cells slots Q (F0 m (pc + 3) ls (v :: rest))) : W p l e R s m args below meth c H locs cells slots Q (F0 m pc ls st0) := pu_goon hr kk
theorem pu_n (hr : va_Run p l e R s m args below meth c H locs cells slots 0 0 (F0 m pc ls st0) rest (PuQ none as0) (fun _ => False))
    (kk : W p l e R s m args below meth c H locs cells slots Q (F0 m (pc + 3) ls rest)) : W p l e R s m args below meth c H locs cells slots Q (F0 m pc ls st0) := pu_goon hr kk
end PuRows

set_option maxHeartbeats 4000000 in
set_option maxRecDepth 100000 in
theorem k_A_size (l : Launch) (G : Gl) (w : World) {L E : Nat} {md n : Int32} (hw : w L = some (.inr (0, [.int md, .ref E, .int n]))) :
    PuM l y_A_size ws_A_size 0 G w [.ref L] (some (.int n)) := by
  refine met_ent (by decide +kernel) (Nat.le_of_ble_eq_true rfl) (fun p e s m below meth c ls C0 hr hin hH hl => ?_)
  have hx := C0.1
  have hb := C0.2.1
  have hS : va_S (gA G) s.heap s.heap [] := va_S.rf
  have hl : lv_has ls 1 [(0, .ref L)] := hl
  refine lv_aload_n hx hb d_A_size_0 rfl (lv_at hl 0 rfl) ?_
  refine gf_A_48 C0 hH hw rfl d_A_size_1 ?_
  exact W.iret hx hb hr (fun t ht _ => ⟨rfl, ht⟩) (fun _ h => by cases h) d_A_size_4 (hlocks := C0.2.2.2.2.2.2)

set_option maxHeartbeats 4000000 in
set_option maxRecDepth 100000 in
theorem k_A_isEmpty (l : Launch) (G : Gl) (w : World) {L E : Nat} {md n : Int32} (hw : w L = some (.inr (0, [.int md, .ref E, .int n]))) :
    PuM l y_A_isEmpty ws_A_isEmpty 0 G w [.ref L] (some (.int (if n = 0 then 1 else 0))) := by
  refine met_ent (by decide +kernel) (Nat.le_of_ble_eq_true rfl) (fun p e s m below meth c ls C0 hr hin hH hl => ?_)
  have hx := C0.1
  have hb := C0.2.1
  have hS : va_S (gA G) s.heap s.heap [] := va_S.rf
  have hl : lv_has ls 1 [(0, .ref L)] := hl
  refine lv_aload_n hx hb d_A_isEmpty_0 rfl (lv_at hl 0 rfl) ?_
  refine gf_A_48 C0 hH hw rfl d_A_isEmpty_1 ?_
  refine lv_if_ne (tgt := 11) hx hb d_A_isEmpty_4 (by decide) (fun c_4 => ?_) (fun c_4 => ?_)
  · refine lv_iconst (v := 0) hx hb d_A_isEmpty_11 (by decide) ?_
    exact W.zret hx hb hr rfl (fun t ht _ => ⟨by rw [if_neg c_4], ht⟩) (fun _ h => by cases h) d_A_isEmpty_12 (hlocks := C0.2.2.2.2.2.2)
  · refine lv_iconst (v := 1) hx hb d_A_isEmpty_7 (by decide) ?_
    refine lv_goto (tgt := 12) hx hb d_A_isEmpty_8 (by decide) ?_
    exact W.zret hx hb hr rfl (fun t ht _ => ⟨by rw [if_pos c_4], ht⟩) (fun _ h => by cases h) d_A_isEmpty_12 (hlocks := C0.2.2.2.2.2.2)

set_option maxHeartbeats 4000000 in
set_option maxRecDepth 100000 in
theorem k_P_checkIndex (l : Launch) (G : Gl) (w : World) {i n : Int32} (h1 : ¬ i < 0) (h2 : i < n) :
    PuM l y_P_checkIndex ws_P_checkIndex 0 G w [.int i, .int n, .null] (some (.int i)) := by
  refine met_ent (by decide +kernel) (Nat.le_of_ble_eq_true rfl) (fun p e s m below meth c ls C0 hr hin hH hl => ?_)
  have hx := C0.1
  have hb := C0.2.1
  have hS : va_S (gA G) s.heap s.heap [] := va_S.rf
  have hl : lv_has ls 3 [(0, .int i), (1, .int n), (2, .null)] := hl
  refine lv_iload_n hx hb d_P_checkIndex_0 rfl (lv_at hl 0 rfl) ?_
  refine lv_if_lt (tgt := 9) hx hb d_P_checkIndex_1 (by decide) (fun c_1 => ?_) (fun c_1 => ?_)
  · exact absurd c_1 h1
  · refine lv_iload_n hx hb d_P_checkIndex_4 rfl (lv_at hl 0 rfl) ?_
    refine lv_iload_n hx hb d_P_checkIndex_5 rfl (lv_at hl 1 rfl) ?_
    refine lv_icmp_lt (tgt := 16) hx hb d_P_checkIndex_6 (by decide) (fun c_6 => ?_) (fun c_6 => ?_)
    · refine lv_iload_n hx hb d_P_checkIndex_16 rfl (lv_at hl 0 rfl) ?_
      exact W.iret hx hb hr (fun t ht _ => ⟨rfl, ht⟩) (fun _ h => by cases h) d_P_checkIndex_17 (hlocks := C0.2.2.2.2.2.2)
    · exact absurd h2 c_6

set_option maxHeartbeats 4000000 in
set_option maxRecDepth 100000 in
theorem k_O_checkIndex (l : Launch) (G : Gl) (w : World) {i n : Int32} (h1 : ¬ i < 0) (h2 : i < n) :
    PuM l y_O_checkIndex ws_O_checkIndex 1 G w [.int i, .int n] (some (.int i)) := by
  refine met_ent (by decide +kernel) (Nat.le_of_ble_eq_true rfl) (fun p e s m below meth c ls C0 hr hin hH hl => ?_)
  have hx := C0.1
  have hb := C0.2.1
  have hS : va_S (gA G) s.heap s.heap [] := va_S.rf
  have hl : lv_has ls 2 [(0, .int i), (1, .int n)] := hl
  refine lv_iload_n hx hb d_O_checkIndex_0 rfl (lv_at hl 0 rfl) ?_
  refine lv_iload_n hx hb d_O_checkIndex_1 rfl (lv_at hl 1 rfl) ?_
  refine lv_null hx hb d_O_checkIndex_2 ?_
  refine pu_v (runS C0 (k_P_checkIndex l G w h1 h2) (cs_O_105 C0 ⟨by decide, by decide⟩) hH hS rfl hl.1 rfl (lv_room (Nat.le_of_ble_eq_true rfl)) d_O_checkIndex_3 ⟨Nat.zero_le _, Nat.zero_le _⟩) ?_
  exact W.iret hx hb hr (fun t ht _ => ⟨rfl, ht⟩) (fun _ h => by cases h) d_O_checkIndex_6 (hlocks := C0.2.2.2.2.2.2)

set_option maxHeartbeats 4000000 in
set_option maxRecDepth 100000 in
theorem k_A_elementData (l : Launch) (G : Gl) (w : World) {L E N i x : Nat} {md n : Int32} {f : Nat → Option Nat} (hw : w L = some (.inr (0, [.int md, .ref E, .int n]))) (hE : w E = some (.inl (G.2.1.2.2.2, N, .inr (.inr (.inr (.inr f)))))) (hi : i < N) (hN : N < 2 ^ 31) (hf : f i = some x) :
    PuM l y_A_elementData ws_A_elementData 0 G w [.ref L, .int (nI i)] (some (.ref x)) := by
  refine met_ent (by decide +kernel) (Nat.le_of_ble_eq_true rfl) (fun p e s m below meth c ls C0 hr hin hH hl => ?_)
  have hx := C0.1
  have hb := C0.2.1
  have hS : va_S (gA G) s.heap s.heap [] := va_S.rf
  have hl : lv_has ls 2 [(0, .ref L), (1, .int (nI i))] := hl
  refine lv_aload_n hx hb d_A_elementData_0 rfl (lv_at hl 0 rfl) ?_
  refine gf_A_9 C0 hH hw rfl d_A_elementData_1 ?_
  refine lv_iload_n hx hb d_A_elementData_4 rfl (lv_at hl 1 rfl) ?_
  refine hd_aldq hx hb C0.hK hH 3 hE rfl (vp_in_nI hi hN) d_A_elementData_5 ?_
  rw [nI_clamp (by omega), hf]
  exact W.aret hx hb hr (Or.inl ⟨_, rfl⟩) (Or.inr ⟨_, rfl⟩) (fun t ht _ => ⟨rfl, ht⟩) (fun _ h => by cases h) d_A_elementData_6 (hlocks := C0.2.2.2.2.2.2)

set_option maxHeartbeats 4000000 in
set_option maxRecDepth 100000 in
theorem k_A_get (l : Launch) (G : Gl) (w : World) {L E N i k x : Nat} {md : Int32} {f : Nat → Option Nat} (hw : w L = some (.inr (0, [.int md, .ref E, .int (nI k)]))) (hE : w E = some (.inl (G.2.1.2.2.2, N, .inr (.inr (.inr (.inr f)))))) (hi : i < k) (hk : k ≤ N) (hN : N < 2 ^ 31) (hf : f i = some x) :
    PuM l y_A_get ws_A_get 2 G w [.ref L, .int (nI i)] (some (.ref x)) := by
  refine met_ent (by decide +kernel) (Nat.le_of_ble_eq_true rfl) (fun p e s m below meth c ls C0 hr hin hH hl => ?_)
  have hx := C0.1
  have hb := C0.2.1
  have hS : va_S (gA G) s.heap s.heap [] := va_S.rf
  have hl : lv_has ls 2 [(0, .ref L), (1, .int (nI i))] := hl
  refine lv_iload_n hx hb d_A_get_0 rfl (lv_at hl 1 rfl) ?_
  refine lv_aload_n hx hb d_A_get_1 rfl (lv_at hl 0 rfl) ?_
  refine gf_A_48 C0 hH hw rfl d_A_get_2 ?_
  refine pu_v (runS C0 (k_O_checkIndex l G w (nI_pos (by omega)) (nI_lt hi (by omega))) (cs_A_118 C0 ⟨by decide, by decide⟩) hH hS rfl hl.1 rfl (lv_room (Nat.le_of_ble_eq_true rfl)) d_A_get_5 ⟨Nat.zero_le _, Nat.zero_le _⟩) ?_
  refine lv_pop hx hb d_A_get_8 rfl ?_
  refine lv_aload_n hx hb d_A_get_9 rfl (lv_at hl 0 rfl) ?_
  refine lv_iload_n hx hb d_A_get_10 rfl (lv_at hl 1 rfl) ?_
  refine pu_v (runV C0 (k_A_elementData l G w hw hE (by omega) hN hf) (cs_A_123 C0 ⟨by decide, by decide⟩) hH hS (hd_recv C0.hK hH rfl hw) rfl hl.1 rfl (lv_room (Nat.le_of_ble_eq_true rfl)) d_A_get_11 ⟨Nat.zero_le _, Nat.zero_le _⟩) ?_
  exact W.aret hx hb hr (Or.inl ⟨_, rfl⟩) (Or.inr ⟨_, rfl⟩) (fun t ht _ => ⟨rfl, ht⟩) (fun _ h => by cases h) d_A_get_14 (hlocks := C0.2.2.2.2.2.2)

/-- a box: number, least x, least y, greatest x, greatest y -/
abbrev Bx : Type := Int32 × Int32 × Int32 × Int32 × Int32
abbrev bxf (a : Bx) : List Value := [.int a.1, .int a.2.1, .int a.2.2.1, .int a.2.2.2.1, .int a.2.2.2.2]
def bMeets (a b : Bx) : Prop := a.2.1 ≤ b.2.2.2.1 ∧ b.2.1 ≤ a.2.2.2.1 ∧ a.2.2.1 ≤ b.2.2.2.2 ∧ b.2.2.1 ≤ a.2.2.2.2
def bIn (a b : Bx) : Prop := b.2.1 ≤ a.2.1 ∧ a.2.2.2.1 ≤ b.2.2.2.1 ∧ b.2.2.1 ≤ a.2.2.1 ∧ a.2.2.2.2 ≤ b.2.2.2.2
noncomputable def b01 (P : Prop) : Int32 := by
  classical
  exact if P then 1 else 0
theorem b01_t {P : Prop} (h : P) : b01 P = 1 := if_pos h
theorem b01_f {P : Prop} (h : ¬ P) : b01 P = 0 := if_neg h
theorem b01_nar {P : Prop} : narrow .boolean (.int (b01 P)) = .int (b01 P) := by
  by_cases h : P
  · rw [b01_t h]; rfl
  · rw [b01_f h]; rfl
def wayZ (v lo hi : Int) : Int := if v < lo then lo - v else if hi < v then v - hi else 0
def bDist (a : Bx) (x y : Int32) : Int := wayZ x.toInt a.2.1.toInt a.2.2.2.1.toInt * wayZ x.toInt a.2.1.toInt a.2.2.2.1.toInt + wayZ y.toInt a.2.2.1.toInt a.2.2.2.2.toInt * wayZ y.toInt a.2.2.1.toInt a.2.2.2.2.toInt

set_option maxHeartbeats 4000000 in
set_option maxRecDepth 100000 in
theorem k_X_meets (l : Launch) (G : Gl) (w : World) {x y : Nat} {a b : Bx} (hx1 : w x = some (.inr (1, bxf a))) (hy1 : w y = some (.inr (1, bxf b))) :
    PuM l y_X_meets ws_X_meets 0 G w [.ref x, .ref y] (some (.int (b01 (bMeets a b)))) := by
  refine met_ent (by decide +kernel) (Nat.le_of_ble_eq_true rfl) (fun p e s m below meth c ls C0 hr hin hH hl => ?_)
  have hx := C0.1
  have hb := C0.2.1
  have hS : va_S (gA G) s.heap s.heap [] := va_S.rf
  have hl : lv_has ls 2 [(0, .ref x), (1, .ref y)] := hl
  refine lv_aload_n hx hb d_X_meets_0 rfl (lv_at hl 0 rfl) ?_
  refine gf_X_15 C0 hH hx1 rfl d_X_meets_1 ?_
  refine lv_aload_n hx hb d_X_meets_4 rfl (lv_at hl 1 rfl) ?_
  refine gf_X_21 C0 hH hy1 rfl d_X_meets_5 ?_
  refine lv_icmp_gt (tgt := 48) hx hb d_X_meets_8 (by decide) (fun c_8 => ?_) (fun c_8 => ?_)
  · refine lv_iconst (v := 0) hx hb d_X_meets_48 (by decide) ?_
    exact W.zret hx hb hr rfl (fun t ht _ => ⟨congrArg (fun z => Outcome.returned (some (Value.int z))) (b01_f (by unfold bMeets; revert c_8; simp only [Int32.le_iff_toInt_le, Int32.lt_iff_toInt_lt]; omega)).symm, ht⟩) (fun _ h => by cases h) d_X_meets_49 (hlocks := C0.2.2.2.2.2.2)
  · refine lv_aload_n hx hb d_X_meets_11 rfl (lv_at hl 1 rfl) ?_
    refine gf_X_15 C0 hH hy1 rfl d_X_meets_12 ?_
    refine lv_aload_n hx hb d_X_meets_15 rfl (lv_at hl 0 rfl) ?_
    refine gf_X_21 C0 hH hx1 rfl d_X_meets_16 ?_
    refine lv_icmp_gt (tgt := 48) hx hb d_X_meets_19 (by decide) (fun c_19 => ?_) (fun c_19 => ?_)
    · refine lv_iconst (v := 0) hx hb d_X_meets_48 (by decide) ?_
      exact W.zret hx hb hr rfl (fun t ht _ => ⟨congrArg (fun z => Outcome.returned (some (Value.int z))) (b01_f (by unfold bMeets; revert c_19 c_8; simp only [Int32.le_iff_toInt_le, Int32.lt_iff_toInt_lt]; omega)).symm, ht⟩) (fun _ h => by cases h) d_X_meets_49 (hlocks := C0.2.2.2.2.2.2)
    · refine lv_aload_n hx hb d_X_meets_22 rfl (lv_at hl 0 rfl) ?_
      refine gf_X_18 C0 hH hx1 rfl d_X_meets_23 ?_
      refine lv_aload_n hx hb d_X_meets_26 rfl (lv_at hl 1 rfl) ?_
      refine gf_X_24 C0 hH hy1 rfl d_X_meets_27 ?_
      refine lv_icmp_gt (tgt := 48) hx hb d_X_meets_30 (by decide) (fun c_30 => ?_) (fun c_30 => ?_)
      · refine lv_iconst (v := 0) hx hb d_X_meets_48 (by decide) ?_
        exact W.zret hx hb hr rfl (fun t ht _ => ⟨congrArg (fun z => Outcome.returned (some (Value.int z))) (b01_f (by unfold bMeets; revert c_30 c_19 c_8; simp only [Int32.le_iff_toInt_le, Int32.lt_iff_toInt_lt]; omega)).symm, ht⟩) (fun _ h => by cases h) d_X_meets_49 (hlocks := C0.2.2.2.2.2.2)
      · refine lv_aload_n hx hb d_X_meets_33 rfl (lv_at hl 1 rfl) ?_
        refine gf_X_18 C0 hH hy1 rfl d_X_meets_34 ?_
        refine lv_aload_n hx hb d_X_meets_37 rfl (lv_at hl 0 rfl) ?_
        refine gf_X_24 C0 hH hx1 rfl d_X_meets_38 ?_
        refine lv_icmp_gt (tgt := 48) hx hb d_X_meets_41 (by decide) (fun c_41 => ?_) (fun c_41 => ?_)
        · refine lv_iconst (v := 0) hx hb d_X_meets_48 (by decide) ?_
          exact W.zret hx hb hr rfl (fun t ht _ => ⟨congrArg (fun z => Outcome.returned (some (Value.int z))) (b01_f (by unfold bMeets; revert c_41 c_30 c_19 c_8; simp only [Int32.le_iff_toInt_le, Int32.lt_iff_toInt_lt]; omega)).symm, ht⟩) (fun _ h => by cases h) d_X_meets_49 (hlocks := C0.2.2.2.2.2.2)
        · refine lv_iconst (v := 1) hx hb d_X_meets_44 (by decide) ?_
          refine lv_goto (tgt := 49) hx hb d_X_meets_45 (by decide) ?_
          exact W.zret hx hb hr rfl (fun t ht _ => ⟨congrArg (fun z => Outcome.returned (some (Value.int z))) (b01_t (by unfold bMeets; revert c_41 c_30 c_19 c_8; simp only [Int32.le_iff_toInt_le, Int32.lt_iff_toInt_lt]; omega)).symm, ht⟩) (fun _ h => by cases h) d_X_meets_49 (hlocks := C0.2.2.2.2.2.2)

set_option maxHeartbeats 4000000 in
set_option maxRecDepth 100000 in
theorem k_X_liesIn (l : Launch) (G : Gl) (w : World) {x y : Nat} {a b : Bx} (hx1 : w x = some (.inr (1, bxf a))) (hy1 : w y = some (.inr (1, bxf b))) :
    PuM l y_X_liesIn ws_X_liesIn 0 G w [.ref x, .ref y] (some (.int (b01 (bIn a b)))) := by
  refine met_ent (by decide +kernel) (Nat.le_of_ble_eq_true rfl) (fun p e s m below meth c ls C0 hr hin hH hl => ?_)
  have hx := C0.1
  have hb := C0.2.1
  have hS : va_S (gA G) s.heap s.heap [] := va_S.rf
  have hl : lv_has ls 2 [(0, .ref x), (1, .ref y)] := hl
  refine lv_aload_n hx hb d_X_liesIn_0 rfl (lv_at hl 1 rfl) ?_
  refine gf_X_15 C0 hH hy1 rfl d_X_liesIn_1 ?_
  refine lv_aload_n hx hb d_X_liesIn_4 rfl (lv_at hl 0 rfl) ?_
  refine gf_X_15 C0 hH hx1 rfl d_X_liesIn_5 ?_
  refine lv_icmp_gt (tgt := 48) hx hb d_X_liesIn_8 (by decide) (fun c_8 => ?_) (fun c_8 => ?_)
  · refine lv_iconst (v := 0) hx hb d_X_liesIn_48 (by decide) ?_
    exact W.zret hx hb hr rfl (fun t ht _ => ⟨congrArg (fun z => Outcome.returned (some (Value.int z))) (b01_f (by unfold bIn; revert c_8; simp only [Int32.le_iff_toInt_le, Int32.lt_iff_toInt_lt]; omega)).symm, ht⟩) (fun _ h => by cases h) d_X_liesIn_49 (hlocks := C0.2.2.2.2.2.2)
  · refine lv_aload_n hx hb d_X_liesIn_11 rfl (lv_at hl 0 rfl) ?_
    refine gf_X_21 C0 hH hx1 rfl d_X_liesIn_12 ?_
    refine lv_aload_n hx hb d_X_liesIn_15 rfl (lv_at hl 1 rfl) ?_
    refine gf_X_21 C0 hH hy1 rfl d_X_liesIn_16 ?_
    refine lv_icmp_gt (tgt := 48) hx hb d_X_liesIn_19 (by decide) (fun c_19 => ?_) (fun c_19 => ?_)
    · refine lv_iconst (v := 0) hx hb d_X_liesIn_48 (by decide) ?_
      exact W.zret hx hb hr rfl (fun t ht _ => ⟨congrArg (fun z => Outcome.returned (some (Value.int z))) (b01_f (by unfold bIn; revert c_19 c_8; simp only [Int32.le_iff_toInt_le, Int32.lt_iff_toInt_lt]; omega)).symm, ht⟩) (fun _ h => by cases h) d_X_liesIn_49 (hlocks := C0.2.2.2.2.2.2)
    · refine lv_aload_n hx hb d_X_liesIn_22 rfl (lv_at hl 1 rfl) ?_
      refine gf_X_18 C0 hH hy1 rfl d_X_liesIn_23 ?_
      refine lv_aload_n hx hb d_X_liesIn_26 rfl (lv_at hl 0 rfl) ?_
      refine gf_X_18 C0 hH hx1 rfl d_X_liesIn_27 ?_
      refine lv_icmp_gt (tgt := 48) hx hb d_X_liesIn_30 (by decide) (fun c_30 => ?_) (fun c_30 => ?_)
      · refine lv_iconst (v := 0) hx hb d_X_liesIn_48 (by decide) ?_
        exact W.zret hx hb hr rfl (fun t ht _ => ⟨congrArg (fun z => Outcome.returned (some (Value.int z))) (b01_f (by unfold bIn; revert c_30 c_19 c_8; simp only [Int32.le_iff_toInt_le, Int32.lt_iff_toInt_lt]; omega)).symm, ht⟩) (fun _ h => by cases h) d_X_liesIn_49 (hlocks := C0.2.2.2.2.2.2)
      · refine lv_aload_n hx hb d_X_liesIn_33 rfl (lv_at hl 0 rfl) ?_
        refine gf_X_24 C0 hH hx1 rfl d_X_liesIn_34 ?_
        refine lv_aload_n hx hb d_X_liesIn_37 rfl (lv_at hl 1 rfl) ?_
        refine gf_X_24 C0 hH hy1 rfl d_X_liesIn_38 ?_
        refine lv_icmp_gt (tgt := 48) hx hb d_X_liesIn_41 (by decide) (fun c_41 => ?_) (fun c_41 => ?_)
        · refine lv_iconst (v := 0) hx hb d_X_liesIn_48 (by decide) ?_
          exact W.zret hx hb hr rfl (fun t ht _ => ⟨congrArg (fun z => Outcome.returned (some (Value.int z))) (b01_f (by unfold bIn; revert c_41 c_30 c_19 c_8; simp only [Int32.le_iff_toInt_le, Int32.lt_iff_toInt_lt]; omega)).symm, ht⟩) (fun _ h => by cases h) d_X_liesIn_49 (hlocks := C0.2.2.2.2.2.2)
        · refine lv_iconst (v := 1) hx hb d_X_liesIn_44 (by decide) ?_
          refine lv_goto (tgt := 49) hx hb d_X_liesIn_45 (by decide) ?_
          exact W.zret hx hb hr rfl (fun t ht _ => ⟨congrArg (fun z => Outcome.returned (some (Value.int z))) (b01_t (by unfold bIn; revert c_41 c_30 c_19 c_8; simp only [Int32.le_iff_toInt_le, Int32.lt_iff_toInt_lt]; omega)).symm, ht⟩) (fun _ h => by cases h) d_X_liesIn_49 (hlocks := C0.2.2.2.2.2.2)
