/-! the model's own questions -/
section HDZ
variable {p : Program} {l : Launch} {e : Env} {R : Room} {s : State} {m : MethodId} {args : Array Value} {below : List Frame} {meth : Method} {c : Code} {H : Heap} {locs : List Loc} {cells slots : Nat} {Q : State → Prop}
variable {cc : ByteArray} {pc : Nat} {ls : Array Slot} {rest : List Value} {D : va_G} {cl : List vw_C} {A : Nat → Prop} {a : Nat} {tys : List (ClassId × FieldType)} {w : Nat → Option va_E} {H0 : Heap}
theorem hd_zald (hexec : p.tables.exec = Jvm.exec) (hb : c.code = cc) (hK : va_K D cl tys s) (hH : Hd D cl A w H) (t0 : Nat) {cA : ClassId} {n : Nat} {f : Nat → Int32} (ha : w a = some (.inl (cA, n, .inl f))) (ht : tys[t0]? = some (cA, .boolean)) {i : Int32} (hin : vp_in i n) (hdg : decode cc pc = .ok (.baload, 1))
    (kk : W p l e R s m args below meth c H locs cells slots Q (F0 m (pc + 1) ls (.int (f i.toNatClampNeg) :: rest))) : W p l e R s m args below meth c H locs cells slots Q (F0 m pc ls (.int i :: .ref a :: rest)) := by
  obtain ⟨ws, hP, hD, hw⟩ := hH
  obtain ⟨k0, hk0⟩ := hd_ix hw ha
  exact va_zald hexec hb hK hP k0 t0 hk0 ht hin hdg kk
theorem hd_zast (hexec : p.tables.exec = Jvm.exec) (hb : c.code = cc) (hK : va_K D cl tys s) (hH : Hd D cl A w H) (hS : va_S A H0 H locs) (t0 : Nat) {cA : ClassId} {n : Nat} {f : Nat → Int32} (ha : w a = some (.inl (cA, n, .inl f))) (ht : tys[t0]? = some (cA, .boolean)) {i : Int32} {x : Int32} (hin : vp_in i n) (hnx : vp_nar .boolean x = x) (hdg : decode cc pc = .ok (.bastore, 1))
    (kk : ∀ (H1 : Heap) (locs1 : List Loc), Hd D cl A (va_up w a (some (.inl (cA, n, .inl (upd f i.toNatClampNeg x))))) H1 → va_S A H0 H1 locs1 → W p l e R s m args below meth c H1 locs1 cells slots Q (F0 m (pc + 1) ls rest)) : W p l e R s m args below meth c H locs cells slots Q (F0 m pc ls (.int x :: .int i :: .ref a :: rest)) := by
  obtain ⟨ws, hP, hD, hw⟩ := hH
  obtain ⟨k0, hk0⟩ := hd_ix hw ha
  exact va_zast hexec hb hK hP hD hS k0 t0 hk0 ht hin hdg (fun H1 locs1 hP1 hD1 hS1 => kk H1 locs1 (by rw [hnx] at hP1 hD1; exact ⟨_, hP1, hD1, hd_set hw hD hk0⟩) hS1)
end HDZ
def MDis (aT aX aY aU aV aR : Nat) : Prop := aT ≠ aX ∧ aT ≠ aY ∧ aT ≠ aU ∧ aT ≠ aV ∧ aT ≠ aR ∧ aX ≠ aY ∧ aX ≠ aU ∧ aX ≠ aV ∧ aX ≠ aR ∧ aY ≠ aU ∧ aY ≠ aV ∧ aY ≠ aR ∧ aU ≠ aV ∧ aU ≠ aR ∧ aV ≠ aR
/-- the model at y -/
def MAt (G : Gl) (w : World) (y aT aX aY aU aV aR : Nat) (tc : Int32) (th lx ly ux uy : Nat → Int32) (sz : Nat) (rf : Nat → Int32) : Prop :=
  w y = some (.inr (3, [.int tc, .ref aT, .ref aX, .ref aY, .ref aU, .ref aV, .int (nI sz), .ref aR])) ∧ w aT = some (.inl (G.2.1.2.2.1, 4096, .inl th)) ∧ w aX = some (.inl (G.2.1.1, 4096, .inl lx)) ∧ w aY = some (.inl (G.2.1.1, 4096, .inl ly)) ∧ w aU = some (.inl (G.2.1.1, 4096, .inl ux)) ∧ w aV = some (.inl (G.2.1.1, 4096, .inl uy)) ∧ w aR = some (.inl (G.2.1.1, 4096, .inl rf)) ∧ MDis aT aX aY aU aV aR
/-- the model's box i -/
def mb (lx ly ux uy : Nat → Int32) (i : Nat) : Bx := (nI i, lx i, ly i, ux i, uy i)
def cntT (th : Nat → Int32) : Nat → Nat
  | 0 => 0
  | n + 1 => cntT th n + if th n = 0 then 0 else 1
theorem cntT_le (th : Nat → Int32) : ∀ n : Nat, cntT th n ≤ n
  | 0 => Nat.le_refl _
  | n + 1 => by
    have := cntT_le th n
    rw [cntT]
    by_cases h : th n = 0
    · rw [if_pos h]; omega
    · rw [if_neg h]; omega
def gapL (v lo hi : Int64) : Int64 := if v < lo then lo - v else if hi < v then v - hi else 0
theorem gapL_way (v lo hi : Int32) : gapL v.toInt64 lo.toInt64 hi.toInt64 = way v lo hi := by
  have h1 : (v.toInt64 < lo.toInt64) ↔ v < lo := by rw [Int64.lt_iff_toInt_lt, Int32.lt_iff_toInt_lt, Int32.toInt_toInt64, Int32.toInt_toInt64]
  have h2 : (hi.toInt64 < v.toInt64) ↔ hi < v := by rw [Int64.lt_iff_toInt_lt, Int32.lt_iff_toInt_lt, Int32.toInt_toInt64, Int32.toInt_toInt64]
  unfold gapL way
  by_cases a : v < lo
  · rw [if_pos (h1.mpr a), if_pos a]
  · rw [if_neg (fun h => a (h1.mp h)), if_neg a]
    by_cases b : hi < v
    · rw [if_pos (h2.mpr b), if_pos b]
    · rw [if_neg (fun h => b (h2.mp h)), if_neg b]

set_option maxHeartbeats 4000000 in
set_option maxRecDepth 100000 in
theorem k_M_within (l : Launch) (G : Gl) (w : World) (v lo hi : Int32) :
    PuM l y_M_within ws_M_within 0 G w [.int v, .int lo, .int hi] (some (.int (b01 (lo ≤ v ∧ v ≤ hi)))) := by
  refine met_ent (by decide +kernel) (Nat.le_of_ble_eq_true rfl) (fun p e s m below meth c ls C0 hr hin hH hl => ?_)
  have hx := C0.1
  have hb := C0.2.1
  have hS : va_S (gA G) s.heap s.heap [] := va_S.rf
  have hl : lv_has ls 3 [(0, .int v), (1, .int lo), (2, .int hi)] := hl
  refine lv_iload_n hx hb d_M_within_0 rfl (lv_at hl 0 rfl) ?_
  refine lv_iload_n hx hb d_M_within_1 rfl (lv_at hl 1 rfl) ?_
  refine lv_icmp_lt (tgt := 14) hx hb d_M_within_2 (by decide) (fun c_2 => ?_) (fun c_2 => ?_)
  · refine lv_iconst (v := 0) hx hb d_M_within_14 (by decide) ?_
    exact W.zret hx hb hr rfl (fun t ht _ => ⟨congrArg (fun z => Outcome.returned (some (Value.int z))) (b01_f (by revert c_2; simp only [Int32.le_iff_toInt_le, Int32.lt_iff_toInt_lt, tI9, tIm9, tI4096, tI3, tI2, tI1, tI0]; omega)).symm, ht⟩) (fun _ h => by cases h) d_M_within_15 (hlocks := C0.2.2.2.2.2.2)
  · refine lv_iload_n hx hb d_M_within_5 rfl (lv_at hl 0 rfl) ?_
    refine lv_iload_n hx hb d_M_within_6 rfl (lv_at hl 2 rfl) ?_
    refine lv_icmp_gt (tgt := 14) hx hb d_M_within_7 (by decide) (fun c_7 => ?_) (fun c_7 => ?_)
    · refine lv_iconst (v := 0) hx hb d_M_within_14 (by decide) ?_
      exact W.zret hx hb hr rfl (fun t ht _ => ⟨congrArg (fun z => Outcome.returned (some (Value.int z))) (b01_f (by revert c_7 c_2; simp only [Int32.le_iff_toInt_le, Int32.lt_iff_toInt_lt, tI9, tIm9, tI4096, tI3, tI2, tI1, tI0]; omega)).symm, ht⟩) (fun _ h => by cases h) d_M_within_15 (hlocks := C0.2.2.2.2.2.2)
    · refine lv_iconst (v := 1) hx hb d_M_within_10 (by decide) ?_
      refine lv_goto (tgt := 15) hx hb d_M_within_11 (by decide) ?_
      exact W.zret hx hb hr rfl (fun t ht _ => ⟨congrArg (fun z => Outcome.returned (some (Value.int z))) (b01_t (by revert c_7 c_2; simp only [Int32.le_iff_toInt_le, Int32.lt_iff_toInt_lt, tI9, tIm9, tI4096, tI3, tI2, tI1, tI0]; omega)).symm, ht⟩) (fun _ h => by cases h) d_M_within_15 (hlocks := C0.2.2.2.2.2.2)

set_option maxHeartbeats 4000000 in
set_option maxRecDepth 100000 in
theorem k_M_isFar (l : Launch) (G : Gl) (w : World) (v : Int32) :
    PuM l y_M_isFar ws_M_isFar 1 G w [.int v] (some (.int (b01 (¬ okC v)))) := by
  refine met_ent (by decide +kernel) (Nat.le_of_ble_eq_true rfl) (fun p e s m below meth c ls C0 hr hin hH hl => ?_)
  have hx := C0.1
  have hb := C0.2.1
  have hS : va_S (gA G) s.heap s.heap [] := va_S.rf
  have hl : lv_has ls 1 [(0, .int v)] := hl
  refine lv_iload_n hx hb d_M_isFar_0 rfl (lv_at hl 0 rfl) ?_
  refine W.eq (g2 := F0 m 1 ls _) rfl (W.ldc hx hb C0.2.2.2.1 (C0.2.2.2.2.1 _ mw_741) rfl d_M_isFar_1 ?_)
  refine W.eq (g2 := F0 m 3 ls [.int (-1000000000), .int v]) rfl ?_
  refine W.eq (g2 := F0 m 3 ls _) rfl (W.ldc hx hb C0.2.2.2.1 (C0.2.2.2.2.1 _ mw_742) rfl d_M_isFar_3 ?_)
  refine W.eq (g2 := F0 m 5 ls [.int 1000000000, .int (-1000000000), .int v]) rfl ?_
  refine pu_v (runS C0 (k_M_within l G w v (-1000000000) 1000000000) (cs_M_35 C0 ⟨Nat.le_of_ble_eq_true rfl, Nat.le_of_ble_eq_true rfl⟩) hH hS rfl hl.1 rfl (lv_room (Nat.le_of_ble_eq_true rfl)) d_M_isFar_5 ⟨Nat.zero_le _, Nat.zero_le _⟩) ?_
  refine lv_if_ne (tgt := 15) hx hb d_M_isFar_8 (by decide) (fun c_8 => ?_) (fun c_8 => ?_)
  · refine lv_iconst (v := 0) hx hb d_M_isFar_15 (by decide) ?_
    exact W.zret hx hb hr rfl (fun t ht _ => ⟨congrArg (fun z => Outcome.returned (some (Value.int z))) (b01_f (fun h => h (Classical.byContradiction (fun q => c_8 (b01_f q))))).symm, ht⟩) (fun _ h => by cases h) d_M_isFar_16 (hlocks := C0.2.2.2.2.2.2)
  · refine lv_iconst (v := 1) hx hb d_M_isFar_11 (by decide) ?_
    refine lv_goto (tgt := 16) hx hb d_M_isFar_12 (by decide) ?_
    exact W.zret hx hb hr rfl (fun t ht _ => ⟨congrArg (fun z => Outcome.returned (some (Value.int z))) (b01_t (fun h => absurd ((b01_t h).symm.trans c_8) (by decide))).symm, ht⟩) (fun _ h => by cases h) d_M_isFar_16 (hlocks := C0.2.2.2.2.2.2)

set_option maxHeartbeats 4000000 in
set_option maxRecDepth 100000 in
theorem k_M_areBounds (l : Launch) (G : Gl) (w : World) (x1 y1 x2 y2 : Int32) :
    PuM l y_M_areBounds ws_M_areBounds 2 G w [.int x1, .int y1, .int x2, .int y2] (some (.int (b01 (okB x1 y1 x2 y2)))) := by
  refine met_ent (by decide +kernel) (Nat.le_of_ble_eq_true rfl) (fun p e s m below meth c ls C0 hr hin hH hl => ?_)
  have hx := C0.1
  have hb := C0.2.1
  have hS : va_S (gA G) s.heap s.heap [] := va_S.rf
  have hl : lv_has ls 4 [(0, .int x1), (1, .int y1), (2, .int x2), (3, .int y2)] := hl
  refine lv_iload_n hx hb d_M_areBounds_0 rfl (lv_at hl 0 rfl) ?_
  refine pu_v (runS C0 (k_M_isFar l G w x1) (cs_M_39 C0 ⟨Nat.le_of_ble_eq_true rfl, Nat.le_of_ble_eq_true rfl⟩) hH hS rfl hl.1 rfl (lv_room (Nat.le_of_ble_eq_true rfl)) d_M_areBounds_1 ⟨Nat.zero_le _, Nat.zero_le _⟩) ?_
  refine lv_if_ne (tgt := 42) hx hb d_M_areBounds_4 (by decide) (fun c_4 => ?_) (fun c_4 => ?_)
  · refine lv_iconst (v := 0) hx hb d_M_areBounds_42 (by decide) ?_
    exact W.zret hx hb hr rfl (fun t ht _ => ⟨congrArg (fun z => Outcome.returned (some (Value.int z))) (b01_f (fun h => c_4 (b01_f (fun q => q h.1.1)))).symm, ht⟩) (fun _ h => by cases h) d_M_areBounds_43 (hlocks := C0.2.2.2.2.2.2)
  · refine lv_iload_n hx hb d_M_areBounds_7 rfl (lv_at hl 1 rfl) ?_
    refine pu_v (runS C0 (k_M_isFar l G w y1) (cs_M_39 C0 ⟨Nat.le_of_ble_eq_true rfl, Nat.le_of_ble_eq_true rfl⟩) hH hS rfl hl.1 rfl (lv_room (Nat.le_of_ble_eq_true rfl)) d_M_areBounds_8 ⟨Nat.zero_le _, Nat.zero_le _⟩) ?_
    refine lv_if_ne (tgt := 42) hx hb d_M_areBounds_11 (by decide) (fun c_11 => ?_) (fun c_11 => ?_)
    · refine lv_iconst (v := 0) hx hb d_M_areBounds_42 (by decide) ?_
      exact W.zret hx hb hr rfl (fun t ht _ => ⟨congrArg (fun z => Outcome.returned (some (Value.int z))) (b01_f (fun h => c_11 (b01_f (fun q => q h.1.2)))).symm, ht⟩) (fun _ h => by cases h) d_M_areBounds_43 (hlocks := C0.2.2.2.2.2.2)
    · refine lv_iload_n hx hb d_M_areBounds_14 rfl (lv_at hl 2 rfl) ?_
      refine pu_v (runS C0 (k_M_isFar l G w x2) (cs_M_39 C0 ⟨Nat.le_of_ble_eq_true rfl, Nat.le_of_ble_eq_true rfl⟩) hH hS rfl hl.1 rfl (lv_room (Nat.le_of_ble_eq_true rfl)) d_M_areBounds_15 ⟨Nat.zero_le _, Nat.zero_le _⟩) ?_
      refine lv_if_ne (tgt := 42) hx hb d_M_areBounds_18 (by decide) (fun c_18 => ?_) (fun c_18 => ?_)
      · refine lv_iconst (v := 0) hx hb d_M_areBounds_42 (by decide) ?_
        exact W.zret hx hb hr rfl (fun t ht _ => ⟨congrArg (fun z => Outcome.returned (some (Value.int z))) (b01_f (fun h => c_18 (b01_f (fun q => q h.2.1.1)))).symm, ht⟩) (fun _ h => by cases h) d_M_areBounds_43 (hlocks := C0.2.2.2.2.2.2)
      · refine lv_iload_n hx hb d_M_areBounds_21 rfl (lv_at hl 3 rfl) ?_
        refine pu_v (runS C0 (k_M_isFar l G w y2) (cs_M_39 C0 ⟨Nat.le_of_ble_eq_true rfl, Nat.le_of_ble_eq_true rfl⟩) hH hS rfl hl.1 rfl (lv_room (Nat.le_of_ble_eq_true rfl)) d_M_areBounds_22 ⟨Nat.zero_le _, Nat.zero_le _⟩) ?_
        refine lv_if_ne (tgt := 42) hx hb d_M_areBounds_25 (by decide) (fun c_25 => ?_) (fun c_25 => ?_)
        · refine lv_iconst (v := 0) hx hb d_M_areBounds_42 (by decide) ?_
          exact W.zret hx hb hr rfl (fun t ht _ => ⟨congrArg (fun z => Outcome.returned (some (Value.int z))) (b01_f (fun h => c_25 (b01_f (fun q => q h.2.1.2)))).symm, ht⟩) (fun _ h => by cases h) d_M_areBounds_43 (hlocks := C0.2.2.2.2.2.2)
        · refine lv_iload_n hx hb d_M_areBounds_28 rfl (lv_at hl 0 rfl) ?_
          refine lv_iload_n hx hb d_M_areBounds_29 rfl (lv_at hl 2 rfl) ?_
          refine lv_icmp_gt (tgt := 42) hx hb d_M_areBounds_30 (by decide) (fun c_30 => ?_) (fun c_30 => ?_)
          · refine lv_iconst (v := 0) hx hb d_M_areBounds_42 (by decide) ?_
            exact W.zret hx hb hr rfl (fun t ht _ => ⟨congrArg (fun z => Outcome.returned (some (Value.int z))) (b01_f (fun h => absurd c_30 (Int32.not_lt.mpr h.2.2.1))).symm, ht⟩) (fun _ h => by cases h) d_M_areBounds_43 (hlocks := C0.2.2.2.2.2.2)
          · refine lv_iload_n hx hb d_M_areBounds_33 rfl (lv_at hl 1 rfl) ?_
            refine lv_iload_n hx hb d_M_areBounds_34 rfl (lv_at hl 3 rfl) ?_
            refine lv_icmp_gt (tgt := 42) hx hb d_M_areBounds_35 (by decide) (fun c_35 => ?_) (fun c_35 => ?_)
            · refine lv_iconst (v := 0) hx hb d_M_areBounds_42 (by decide) ?_
              exact W.zret hx hb hr rfl (fun t ht _ => ⟨congrArg (fun z => Outcome.returned (some (Value.int z))) (b01_f (fun h => absurd c_35 (Int32.not_lt.mpr h.2.2.2))).symm, ht⟩) (fun _ h => by cases h) d_M_areBounds_43 (hlocks := C0.2.2.2.2.2.2)
            · refine lv_iconst (v := 1) hx hb d_M_areBounds_38 (by decide) ?_
              refine lv_goto (tgt := 43) hx hb d_M_areBounds_39 (by decide) ?_
              exact W.zret hx hb hr rfl (fun t ht _ => ⟨congrArg (fun z => Outcome.returned (some (Value.int z))) (b01_t ⟨⟨(Classical.byContradiction (fun q => absurd ((b01_t q).symm.trans (c_4)) (by decide))), (Classical.byContradiction (fun q => absurd ((b01_t q).symm.trans (c_11)) (by decide)))⟩, ⟨(Classical.byContradiction (fun q => absurd ((b01_t q).symm.trans (c_18)) (by decide))), (Classical.byContradiction (fun q => absurd ((b01_t q).symm.trans (c_25)) (by decide)))⟩, Int32.not_lt.mp c_30, Int32.not_lt.mp c_35⟩).symm, ht⟩) (fun _ h => by cases h) d_M_areBounds_43 (hlocks := C0.2.2.2.2.2.2)

set_option maxHeartbeats 4000000 in
set_option maxRecDepth 100000 in
theorem k_M_meets (l : Launch) (G : Gl) (w : World) {y aT aX aY aU aV aR sz : Nat} {tc : Int32} {th lx ly ux uy rf : Nat → Int32} (hM : MAt G w y aT aX aY aU aV aR tc th lx ly ux uy sz rf) (b : Nat) (hb9 : b < 4096) (q : Bx)  :
    PuM l y_M_meets ws_M_meets 0 G w [.ref y, .int (nI b), .int q.2.1, .int q.2.2.1, .int q.2.2.2.1, .int q.2.2.2.2] (some (.int (b01 (bMeets (mb lx ly ux uy b) q)))) := by
  refine met_ent (by decide +kernel) (Nat.le_of_ble_eq_true rfl) (fun p e s m below meth c ls C0 hr hin hH hl => ?_)
  have hx := C0.1
  have hb := C0.2.1
  have hS : va_S (gA G) s.heap s.heap [] := va_S.rf
  have hA : ∀ q : Nat, s.heap.size ≤ q → gA G q := fun q h => Nat.le_trans C0.ev.2.2.2.2.2.2.2.2.2.2.2.2 h
  have hl : lv_has ls 6 [(0, .ref y), (1, .int (nI b)), (2, .int q.2.1), (3, .int q.2.2.1), (4, .int q.2.2.2.1), (5, .int q.2.2.2.2)] := hl
  obtain ⟨hY, hT, hX, hYy, hU9, hV, hR, hDi⟩ := id hM
  refine lv_aload_n hx hb d_M_meets_0 rfl (lv_at hl 0 rfl) ?_
  refine gf_M_13 C0 hH hY rfl d_M_meets_1 ?_
  refine lv_iload_n hx hb d_M_meets_4 rfl (lv_at hl 1 rfl) ?_
  refine hd_iald hx hb C0.hK hH 0 hX rfl (vp_in_nI (by omega) (by omega)) d_M_meets_5 ?_
  rw [nI_clamp (by omega)]
  refine lv_iload hx hb d_M_meets_6 (lv_at hl 4 rfl) ?_
  refine lv_icmp_gt (tgt := 46) hx hb d_M_meets_8 (by decide) (fun c_8 => ?_) (fun c_8 => ?_)
  · refine lv_iconst (v := 0) hx hb d_M_meets_46 (by decide) ?_
    exact W.zret hx hb hr rfl (fun t ht _ => ⟨congrArg (fun z => Outcome.returned (some (Value.int z))) (b01_f (by unfold mb bMeets; revert c_8; simp only [Int32.le_iff_toInt_le, Int32.lt_iff_toInt_lt, tI9, tIm9, tI4096, tI3, tI2, tI1, tI0]; omega)).symm, ht⟩) (fun _ h => by cases h) d_M_meets_47 (hlocks := C0.2.2.2.2.2.2)
  · refine lv_aload_n hx hb d_M_meets_11 rfl (lv_at hl 0 rfl) ?_
    refine gf_M_20 C0 hH hY rfl d_M_meets_12 ?_
    refine lv_iload_n hx hb d_M_meets_15 rfl (lv_at hl 1 rfl) ?_
    refine hd_iald hx hb C0.hK hH 0 hU9 rfl (vp_in_nI (by omega) (by omega)) d_M_meets_16 ?_
    rw [nI_clamp (by omega)]
    refine lv_iload_n hx hb d_M_meets_17 rfl (lv_at hl 2 rfl) ?_
    refine lv_icmp_lt (tgt := 46) hx hb d_M_meets_18 (by decide) (fun c_18 => ?_) (fun c_18 => ?_)
    · refine lv_iconst (v := 0) hx hb d_M_meets_46 (by decide) ?_
      exact W.zret hx hb hr rfl (fun t ht _ => ⟨congrArg (fun z => Outcome.returned (some (Value.int z))) (b01_f (by unfold mb bMeets; revert c_18 c_8; simp only [Int32.le_iff_toInt_le, Int32.lt_iff_toInt_lt, tI9, tIm9, tI4096, tI3, tI2, tI1, tI0]; omega)).symm, ht⟩) (fun _ h => by cases h) d_M_meets_47 (hlocks := C0.2.2.2.2.2.2)
    · refine lv_aload_n hx hb d_M_meets_21 rfl (lv_at hl 0 rfl) ?_
      refine gf_M_17 C0 hH hY rfl d_M_meets_22 ?_
      refine lv_iload_n hx hb d_M_meets_25 rfl (lv_at hl 1 rfl) ?_
      refine hd_iald hx hb C0.hK hH 0 hYy rfl (vp_in_nI (by omega) (by omega)) d_M_meets_26 ?_
      rw [nI_clamp (by omega)]
      refine lv_iload hx hb d_M_meets_27 (lv_at hl 5 rfl) ?_
      refine lv_icmp_gt (tgt := 46) hx hb d_M_meets_29 (by decide) (fun c_29 => ?_) (fun c_29 => ?_)
      · refine lv_iconst (v := 0) hx hb d_M_meets_46 (by decide) ?_
        exact W.zret hx hb hr rfl (fun t ht _ => ⟨congrArg (fun z => Outcome.returned (some (Value.int z))) (b01_f (by unfold mb bMeets; revert c_29 c_18 c_8; simp only [Int32.le_iff_toInt_le, Int32.lt_iff_toInt_lt, tI9, tIm9, tI4096, tI3, tI2, tI1, tI0]; omega)).symm, ht⟩) (fun _ h => by cases h) d_M_meets_47 (hlocks := C0.2.2.2.2.2.2)
      · refine lv_aload_n hx hb d_M_meets_32 rfl (lv_at hl 0 rfl) ?_
        refine gf_M_23 C0 hH hY rfl d_M_meets_33 ?_
        refine lv_iload_n hx hb d_M_meets_36 rfl (lv_at hl 1 rfl) ?_
        refine hd_iald hx hb C0.hK hH 0 hV rfl (vp_in_nI (by omega) (by omega)) d_M_meets_37 ?_
        rw [nI_clamp (by omega)]
        refine lv_iload_n hx hb d_M_meets_38 rfl (lv_at hl 3 rfl) ?_
        refine lv_icmp_lt (tgt := 46) hx hb d_M_meets_39 (by decide) (fun c_39 => ?_) (fun c_39 => ?_)
        · refine lv_iconst (v := 0) hx hb d_M_meets_46 (by decide) ?_
          exact W.zret hx hb hr rfl (fun t ht _ => ⟨congrArg (fun z => Outcome.returned (some (Value.int z))) (b01_f (by unfold mb bMeets; revert c_39 c_29 c_18 c_8; simp only [Int32.le_iff_toInt_le, Int32.lt_iff_toInt_lt, tI9, tIm9, tI4096, tI3, tI2, tI1, tI0]; omega)).symm, ht⟩) (fun _ h => by cases h) d_M_meets_47 (hlocks := C0.2.2.2.2.2.2)
        · refine lv_iconst (v := 1) hx hb d_M_meets_42 (by decide) ?_
          refine lv_goto (tgt := 47) hx hb d_M_meets_43 (by decide) ?_
          exact W.zret hx hb hr rfl (fun t ht _ => ⟨congrArg (fun z => Outcome.returned (some (Value.int z))) (b01_t (by unfold mb bMeets; revert c_39 c_29 c_18 c_8; simp only [Int32.le_iff_toInt_le, Int32.lt_iff_toInt_lt, tI9, tIm9, tI4096, tI3, tI2, tI1, tI0]; omega)).symm, ht⟩) (fun _ h => by cases h) d_M_meets_47 (hlocks := C0.2.2.2.2.2.2)

set_option maxHeartbeats 4000000 in
set_option maxRecDepth 100000 in
theorem k_M_lies (l : Launch) (G : Gl) (w : World) {y aT aX aY aU aV aR sz : Nat} {tc : Int32} {th lx ly ux uy rf : Nat → Int32} (hM : MAt G w y aT aX aY aU aV aR tc th lx ly ux uy sz rf) (b : Nat) (hb9 : b < 4096) (q : Bx)  :
    PuM l y_M_lies ws_M_lies 0 G w [.ref y, .int (nI b), .int q.2.1, .int q.2.2.1, .int q.2.2.2.1, .int q.2.2.2.2] (some (.int (b01 (bIn (mb lx ly ux uy b) q)))) := by
  refine met_ent (by decide +kernel) (Nat.le_of_ble_eq_true rfl) (fun p e s m below meth c ls C0 hr hin hH hl => ?_)
  have hx := C0.1
  have hb := C0.2.1
  have hS : va_S (gA G) s.heap s.heap [] := va_S.rf
  have hA : ∀ q : Nat, s.heap.size ≤ q → gA G q := fun q h => Nat.le_trans C0.ev.2.2.2.2.2.2.2.2.2.2.2.2 h
  have hl : lv_has ls 6 [(0, .ref y), (1, .int (nI b)), (2, .int q.2.1), (3, .int q.2.2.1), (4, .int q.2.2.2.1), (5, .int q.2.2.2.2)] := hl
  obtain ⟨hY, hT, hX, hYy, hU9, hV, hR, hDi⟩ := id hM
  refine lv_aload_n hx hb d_M_lies_0 rfl (lv_at hl 0 rfl) ?_
  refine gf_M_13 C0 hH hY rfl d_M_lies_1 ?_
  refine lv_iload_n hx hb d_M_lies_4 rfl (lv_at hl 1 rfl) ?_
  refine hd_iald hx hb C0.hK hH 0 hX rfl (vp_in_nI (by omega) (by omega)) d_M_lies_5 ?_
  rw [nI_clamp (by omega)]
  refine lv_iload_n hx hb d_M_lies_6 rfl (lv_at hl 2 rfl) ?_
  refine lv_icmp_lt (tgt := 46) hx hb d_M_lies_7 (by decide) (fun c_7 => ?_) (fun c_7 => ?_)
  · refine lv_iconst (v := 0) hx hb d_M_lies_46 (by decide) ?_
    exact W.zret hx hb hr rfl (fun t ht _ => ⟨congrArg (fun z => Outcome.returned (some (Value.int z))) (b01_f (by unfold mb bIn; revert c_7; simp only [Int32.le_iff_toInt_le, Int32.lt_iff_toInt_lt, tI9, tIm9, tI4096, tI3, tI2, tI1, tI0]; omega)).symm, ht⟩) (fun _ h => by cases h) d_M_lies_47 (hlocks := C0.2.2.2.2.2.2)
  · refine lv_aload_n hx hb d_M_lies_10 rfl (lv_at hl 0 rfl) ?_
    refine gf_M_20 C0 hH hY rfl d_M_lies_11 ?_
    refine lv_iload_n hx hb d_M_lies_14 rfl (lv_at hl 1 rfl) ?_
    refine hd_iald hx hb C0.hK hH 0 hU9 rfl (vp_in_nI (by omega) (by omega)) d_M_lies_15 ?_
    rw [nI_clamp (by omega)]
    refine lv_iload hx hb d_M_lies_16 (lv_at hl 4 rfl) ?_
    refine lv_icmp_gt (tgt := 46) hx hb d_M_lies_18 (by decide) (fun c_18 => ?_) (fun c_18 => ?_)
    · refine lv_iconst (v := 0) hx hb d_M_lies_46 (by decide) ?_
      exact W.zret hx hb hr rfl (fun t ht _ => ⟨congrArg (fun z => Outcome.returned (some (Value.int z))) (b01_f (by unfold mb bIn; revert c_18 c_7; simp only [Int32.le_iff_toInt_le, Int32.lt_iff_toInt_lt, tI9, tIm9, tI4096, tI3, tI2, tI1, tI0]; omega)).symm, ht⟩) (fun _ h => by cases h) d_M_lies_47 (hlocks := C0.2.2.2.2.2.2)
    · refine lv_aload_n hx hb d_M_lies_21 rfl (lv_at hl 0 rfl) ?_
      refine gf_M_17 C0 hH hY rfl d_M_lies_22 ?_
      refine lv_iload_n hx hb d_M_lies_25 rfl (lv_at hl 1 rfl) ?_
      refine hd_iald hx hb C0.hK hH 0 hYy rfl (vp_in_nI (by omega) (by omega)) d_M_lies_26 ?_
      rw [nI_clamp (by omega)]
      refine lv_iload_n hx hb d_M_lies_27 rfl (lv_at hl 3 rfl) ?_
      refine lv_icmp_lt (tgt := 46) hx hb d_M_lies_28 (by decide) (fun c_28 => ?_) (fun c_28 => ?_)
      · refine lv_iconst (v := 0) hx hb d_M_lies_46 (by decide) ?_
        exact W.zret hx hb hr rfl (fun t ht _ => ⟨congrArg (fun z => Outcome.returned (some (Value.int z))) (b01_f (by unfold mb bIn; revert c_28 c_18 c_7; simp only [Int32.le_iff_toInt_le, Int32.lt_iff_toInt_lt, tI9, tIm9, tI4096, tI3, tI2, tI1, tI0]; omega)).symm, ht⟩) (fun _ h => by cases h) d_M_lies_47 (hlocks := C0.2.2.2.2.2.2)
      · refine lv_aload_n hx hb d_M_lies_31 rfl (lv_at hl 0 rfl) ?_
        refine gf_M_23 C0 hH hY rfl d_M_lies_32 ?_
        refine lv_iload_n hx hb d_M_lies_35 rfl (lv_at hl 1 rfl) ?_
        refine hd_iald hx hb C0.hK hH 0 hV rfl (vp_in_nI (by omega) (by omega)) d_M_lies_36 ?_
        rw [nI_clamp (by omega)]
        refine lv_iload hx hb d_M_lies_37 (lv_at hl 5 rfl) ?_
        refine lv_icmp_gt (tgt := 46) hx hb d_M_lies_39 (by decide) (fun c_39 => ?_) (fun c_39 => ?_)
        · refine lv_iconst (v := 0) hx hb d_M_lies_46 (by decide) ?_
          exact W.zret hx hb hr rfl (fun t ht _ => ⟨congrArg (fun z => Outcome.returned (some (Value.int z))) (b01_f (by unfold mb bIn; revert c_39 c_28 c_18 c_7; simp only [Int32.le_iff_toInt_le, Int32.lt_iff_toInt_lt, tI9, tIm9, tI4096, tI3, tI2, tI1, tI0]; omega)).symm, ht⟩) (fun _ h => by cases h) d_M_lies_47 (hlocks := C0.2.2.2.2.2.2)
        · refine lv_iconst (v := 1) hx hb d_M_lies_42 (by decide) ?_
          refine lv_goto (tgt := 47) hx hb d_M_lies_43 (by decide) ?_
          exact W.zret hx hb hr rfl (fun t ht _ => ⟨congrArg (fun z => Outcome.returned (some (Value.int z))) (b01_t (by unfold mb bIn; revert c_39 c_28 c_18 c_7; simp only [Int32.le_iff_toInt_le, Int32.lt_iff_toInt_lt, tI9, tIm9, tI4096, tI3, tI2, tI1, tI0]; omega)).symm, ht⟩) (fun _ h => by cases h) d_M_lies_47 (hlocks := C0.2.2.2.2.2.2)

set_option maxHeartbeats 4000000 in
set_option maxRecDepth 100000 in
theorem k_M_has (l : Launch) (G : Gl) (w : World) {y aT aX aY aU aV aR sz : Nat} {tc : Int32} {th lx ly ux uy rf : Nat → Int32} (hM : MAt G w y aT aX aY aU aV aR tc th lx ly ux uy sz rf) (b : Nat) (hb9 : b < 4096) (q : Bx)  :
    PuM l y_M_has ws_M_has 0 G w [.ref y, .int (nI b), .int q.2.1, .int q.2.2.1, .int q.2.2.2.1, .int q.2.2.2.2] (some (.int (b01 (bIn q (mb lx ly ux uy b))))) := by
  refine met_ent (by decide +kernel) (Nat.le_of_ble_eq_true rfl) (fun p e s m below meth c ls C0 hr hin hH hl => ?_)
  have hx := C0.1
  have hb := C0.2.1
  have hS : va_S (gA G) s.heap s.heap [] := va_S.rf
  have hA : ∀ q : Nat, s.heap.size ≤ q → gA G q := fun q h => Nat.le_trans C0.ev.2.2.2.2.2.2.2.2.2.2.2.2 h
  have hl : lv_has ls 6 [(0, .ref y), (1, .int (nI b)), (2, .int q.2.1), (3, .int q.2.2.1), (4, .int q.2.2.2.1), (5, .int q.2.2.2.2)] := hl
  obtain ⟨hY, hT, hX, hYy, hU9, hV, hR, hDi⟩ := id hM
  refine lv_aload_n hx hb d_M_has_0 rfl (lv_at hl 0 rfl) ?_
  refine gf_M_13 C0 hH hY rfl d_M_has_1 ?_
  refine lv_iload_n hx hb d_M_has_4 rfl (lv_at hl 1 rfl) ?_
  refine hd_iald hx hb C0.hK hH 0 hX rfl (vp_in_nI (by omega) (by omega)) d_M_has_5 ?_
  rw [nI_clamp (by omega)]
  refine lv_iload_n hx hb d_M_has_6 rfl (lv_at hl 2 rfl) ?_
  refine lv_icmp_gt (tgt := 46) hx hb d_M_has_7 (by decide) (fun c_7 => ?_) (fun c_7 => ?_)
  · refine lv_iconst (v := 0) hx hb d_M_has_46 (by decide) ?_
    exact W.zret hx hb hr rfl (fun t ht _ => ⟨congrArg (fun z => Outcome.returned (some (Value.int z))) (b01_f (by unfold mb bIn; revert c_7; simp only [Int32.le_iff_toInt_le, Int32.lt_iff_toInt_lt, tI9, tIm9, tI4096, tI3, tI2, tI1, tI0]; omega)).symm, ht⟩) (fun _ h => by cases h) d_M_has_47 (hlocks := C0.2.2.2.2.2.2)
  · refine lv_aload_n hx hb d_M_has_10 rfl (lv_at hl 0 rfl) ?_
    refine gf_M_20 C0 hH hY rfl d_M_has_11 ?_
    refine lv_iload_n hx hb d_M_has_14 rfl (lv_at hl 1 rfl) ?_
    refine hd_iald hx hb C0.hK hH 0 hU9 rfl (vp_in_nI (by omega) (by omega)) d_M_has_15 ?_
    rw [nI_clamp (by omega)]
    refine lv_iload hx hb d_M_has_16 (lv_at hl 4 rfl) ?_
    refine lv_icmp_lt (tgt := 46) hx hb d_M_has_18 (by decide) (fun c_18 => ?_) (fun c_18 => ?_)
    · refine lv_iconst (v := 0) hx hb d_M_has_46 (by decide) ?_
      exact W.zret hx hb hr rfl (fun t ht _ => ⟨congrArg (fun z => Outcome.returned (some (Value.int z))) (b01_f (by unfold mb bIn; revert c_18 c_7; simp only [Int32.le_iff_toInt_le, Int32.lt_iff_toInt_lt, tI9, tIm9, tI4096, tI3, tI2, tI1, tI0]; omega)).symm, ht⟩) (fun _ h => by cases h) d_M_has_47 (hlocks := C0.2.2.2.2.2.2)
    · refine lv_aload_n hx hb d_M_has_21 rfl (lv_at hl 0 rfl) ?_
      refine gf_M_17 C0 hH hY rfl d_M_has_22 ?_
      refine lv_iload_n hx hb d_M_has_25 rfl (lv_at hl 1 rfl) ?_
      refine hd_iald hx hb C0.hK hH 0 hYy rfl (vp_in_nI (by omega) (by omega)) d_M_has_26 ?_
      rw [nI_clamp (by omega)]
      refine lv_iload_n hx hb d_M_has_27 rfl (lv_at hl 3 rfl) ?_
      refine lv_icmp_gt (tgt := 46) hx hb d_M_has_28 (by decide) (fun c_28 => ?_) (fun c_28 => ?_)
      · refine lv_iconst (v := 0) hx hb d_M_has_46 (by decide) ?_
        exact W.zret hx hb hr rfl (fun t ht _ => ⟨congrArg (fun z => Outcome.returned (some (Value.int z))) (b01_f (by unfold mb bIn; revert c_28 c_18 c_7; simp only [Int32.le_iff_toInt_le, Int32.lt_iff_toInt_lt, tI9, tIm9, tI4096, tI3, tI2, tI1, tI0]; omega)).symm, ht⟩) (fun _ h => by cases h) d_M_has_47 (hlocks := C0.2.2.2.2.2.2)
      · refine lv_aload_n hx hb d_M_has_31 rfl (lv_at hl 0 rfl) ?_
        refine gf_M_23 C0 hH hY rfl d_M_has_32 ?_
        refine lv_iload_n hx hb d_M_has_35 rfl (lv_at hl 1 rfl) ?_
        refine hd_iald hx hb C0.hK hH 0 hV rfl (vp_in_nI (by omega) (by omega)) d_M_has_36 ?_
        rw [nI_clamp (by omega)]
        refine lv_iload hx hb d_M_has_37 (lv_at hl 5 rfl) ?_
        refine lv_icmp_lt (tgt := 46) hx hb d_M_has_39 (by decide) (fun c_39 => ?_) (fun c_39 => ?_)
        · refine lv_iconst (v := 0) hx hb d_M_has_46 (by decide) ?_
          exact W.zret hx hb hr rfl (fun t ht _ => ⟨congrArg (fun z => Outcome.returned (some (Value.int z))) (b01_f (by unfold mb bIn; revert c_39 c_28 c_18 c_7; simp only [Int32.le_iff_toInt_le, Int32.lt_iff_toInt_lt, tI9, tIm9, tI4096, tI3, tI2, tI1, tI0]; omega)).symm, ht⟩) (fun _ h => by cases h) d_M_has_47 (hlocks := C0.2.2.2.2.2.2)
        · refine lv_iconst (v := 1) hx hb d_M_has_42 (by decide) ?_
          refine lv_goto (tgt := 47) hx hb d_M_has_43 (by decide) ?_
          exact W.zret hx hb hr rfl (fun t ht _ => ⟨congrArg (fun z => Outcome.returned (some (Value.int z))) (b01_t (by unfold mb bIn; revert c_39 c_28 c_18 c_7; simp only [Int32.le_iff_toInt_le, Int32.lt_iff_toInt_lt, tI9, tIm9, tI4096, tI3, tI2, tI1, tI0]; omega)).symm, ht⟩) (fun _ h => by cases h) d_M_has_47 (hlocks := C0.2.2.2.2.2.2)

set_option maxHeartbeats 4000000 in
set_option maxRecDepth 100000 in
theorem k_M_gap (l : Launch) (G : Gl) (w : World) (v lo hi : Int64) :
    PuM l y_M_gap ws_M_gap 0 G w [.long v, .long lo, .long hi] (some (.long (gapL v lo hi))) := by
  refine met_ent (by decide +kernel) (Nat.le_of_ble_eq_true rfl) (fun p e s m below meth c ls C0 hr hin hH hl => ?_)
  have hx := C0.1
  have hb := C0.2.1
  have hS : va_S (gA G) s.heap s.heap [] := va_S.rf
  have hA : ∀ q : Nat, s.heap.size ≤ q → gA G q := fun q h => Nat.le_trans C0.ev.2.2.2.2.2.2.2.2.2.2.2.2 h
  have hl : lv_has ls 6 [(0, .long v), (2, .long lo), (4, .long hi)] := hl
  refine lv_lload_n hx hb d_M_gap_0 rfl (lv_at hl 0 rfl) ?_
  refine lv_lload_n hx hb d_M_gap_1 rfl (lv_at hl 1 rfl) ?_
  refine W.lcmp hx hb d_M_gap_2 ?_
  refine lv_if_ge (tgt := 12) hx hb d_M_gap_3 (by decide) (fun c_3 => ?_) (fun c_3 => ?_)
  · refine lv_lload_n hx hb d_M_gap_12 rfl (lv_at hl 0 rfl) ?_
    refine lv_lload hx hb d_M_gap_13 (lv_at hl 2 rfl) ?_
    refine W.lcmp hx hb d_M_gap_15 ?_
    refine lv_if_le (tgt := 26) hx hb d_M_gap_16 (by decide) (fun c_16 => ?_) (fun c_16 => ?_)
    · refine lv_lconst (v := 0) hx hb d_M_gap_26 (by decide) ?_
      exact W.lret hx hb hr (fun t ht _ => ⟨congrArg (fun z => Outcome.returned (some (Value.long z))) (by unfold gapL; rw [if_neg (i64_nlt.mpr ((lg_cmp_ge _ _).mp c_3)), if_neg (i64_nlt.mpr ((lg_cmp_le _ _).mp c_16))]), ht⟩) (fun _ h => by cases h) d_M_gap_27 (hlocks := C0.2.2.2.2.2.2)
    · refine lv_lload_n hx hb d_M_gap_19 rfl (lv_at hl 0 rfl) ?_
      refine lv_lload hx hb d_M_gap_20 (lv_at hl 2 rfl) ?_
      refine lv_lsub hx hb d_M_gap_22 ?_
      refine lv_goto (tgt := 27) hx hb d_M_gap_23 (by decide) ?_
      exact W.lret hx hb hr (fun t ht _ => ⟨congrArg (fun z => Outcome.returned (some (Value.long z))) (by unfold gapL; rw [if_neg (i64_nlt.mpr ((lg_cmp_ge _ _).mp c_3)), if_pos (Classical.byContradiction (fun h => c_16 ((lg_cmp_le _ _).mpr (i64_nlt.mp h))))]), ht⟩) (fun _ h => by cases h) d_M_gap_27 (hlocks := C0.2.2.2.2.2.2)
  · refine lv_lload_n hx hb d_M_gap_6 rfl (lv_at hl 1 rfl) ?_
    refine lv_lload_n hx hb d_M_gap_7 rfl (lv_at hl 0 rfl) ?_
    refine lv_lsub hx hb d_M_gap_8 ?_
    refine lv_goto (tgt := 27) hx hb d_M_gap_9 (by decide) ?_
    exact W.lret hx hb hr (fun t ht _ => ⟨congrArg (fun z => Outcome.returned (some (Value.long z))) (by unfold gapL; rw [if_pos (Classical.byContradiction (fun h => c_3 ((lg_cmp_ge _ _).mpr (i64_nlt.mp h))))]), ht⟩) (fun _ h => by cases h) d_M_gap_27 (hlocks := C0.2.2.2.2.2.2)

set_option maxHeartbeats 4000000 in
set_option maxRecDepth 100000 in
theorem k_M_away (l : Launch) (G : Gl) (w : World) {y aT aX aY aU aV aR sz : Nat} {tc : Int32} {th lx ly ux uy rf : Nat → Int32} (hM : MAt G w y aT aX aY aU aV aR tc th lx ly ux uy sz rf) (b : Nat) (hb9 : b < 4096) (px py : Int32)  :
    PuM l y_M_away ws_M_away 1 G w [.ref y, .int (nI b), .int px, .int py] (some (.long (bDst (mb lx ly ux uy b) px py))) := by
  refine met_ent (by decide +kernel) (Nat.le_of_ble_eq_true rfl) (fun p e s m below meth c ls C0 hr hin hH hl => ?_)
  have hx := C0.1
  have hb := C0.2.1
  have hS : va_S (gA G) s.heap s.heap [] := va_S.rf
  have hA : ∀ q : Nat, s.heap.size ≤ q → gA G q := fun q h => Nat.le_trans C0.ev.2.2.2.2.2.2.2.2.2.2.2.2 h
  have hl : lv_has ls 8 [(0, .ref y), (1, .int (nI b)), (2, .int px), (3, .int py)] := hl
  obtain ⟨hY, hT, hX, hYy, hU9, hV, hR, hDi⟩ := id hM
  refine lv_iload_n hx hb d_M_away_0 rfl (lv_at hl 2 rfl) ?_
  refine lv_i2l hx hb d_M_away_1 rfl ?_
  refine lv_aload_n hx hb d_M_away_2 rfl (lv_at hl 0 rfl) ?_
  refine gf_M_13 C0 hH hY rfl d_M_away_3 ?_
  refine lv_iload_n hx hb d_M_away_6 rfl (lv_at hl 1 rfl) ?_
  refine hd_iald hx hb C0.hK hH 0 hX rfl (vp_in_nI (by omega) (by omega)) d_M_away_7 ?_
  rw [nI_clamp (by omega)]
  refine lv_i2l hx hb d_M_away_8 rfl ?_
  refine lv_aload_n hx hb d_M_away_9 rfl (lv_at hl 0 rfl) ?_
  refine gf_M_20 C0 hH hY rfl d_M_away_10 ?_
  refine lv_iload_n hx hb d_M_away_13 rfl (lv_at hl 1 rfl) ?_
  refine hd_iald hx hb C0.hK hH 0 hU9 rfl (vp_in_nI (by omega) (by omega)) d_M_away_14 ?_
  rw [nI_clamp (by omega)]
  refine lv_i2l hx hb d_M_away_15 rfl ?_
  refine pu_v (runS C0 (k_M_gap l G w px.toInt64 (lx b).toInt64 (ux b).toInt64) (cs_M_68 C0 ⟨Nat.le_of_ble_eq_true rfl, Nat.le_of_ble_eq_true rfl⟩) hH hS rfl hl.1 rfl (lv_room (Nat.le_of_ble_eq_true rfl)) d_M_away_16 ⟨by show _ ≤ 0; omega, by show _ ≤ 0; omega⟩) ?_
  refine lv_lstore (lv' := [(4, .long (gapL px.toInt64 (lx b).toInt64 (ux b).toInt64)), (0, .ref y), (1, .int (nI b)), (2, .int px), (3, .int py)]) hx hb d_M_away_19 hl (by decide) rfl (fun ls hl => ?_)
  refine lv_iload_n hx hb d_M_away_21 rfl (lv_at hl 4 rfl) ?_
  refine lv_i2l hx hb d_M_away_22 rfl ?_
  refine lv_aload_n hx hb d_M_away_23 rfl (lv_at hl 1 rfl) ?_
  refine gf_M_17 C0 hH hY rfl d_M_away_24 ?_
  refine lv_iload_n hx hb d_M_away_27 rfl (lv_at hl 2 rfl) ?_
  refine hd_iald hx hb C0.hK hH 0 hYy rfl (vp_in_nI (by omega) (by omega)) d_M_away_28 ?_
  rw [nI_clamp (by omega)]
  refine lv_i2l hx hb d_M_away_29 rfl ?_
  refine lv_aload_n hx hb d_M_away_30 rfl (lv_at hl 1 rfl) ?_
  refine gf_M_23 C0 hH hY rfl d_M_away_31 ?_
  refine lv_iload_n hx hb d_M_away_34 rfl (lv_at hl 2 rfl) ?_
  refine hd_iald hx hb C0.hK hH 0 hV rfl (vp_in_nI (by omega) (by omega)) d_M_away_35 ?_
  rw [nI_clamp (by omega)]
  refine lv_i2l hx hb d_M_away_36 rfl ?_
  refine pu_v (runS C0 (k_M_gap l G w py.toInt64 (ly b).toInt64 (uy b).toInt64) (cs_M_68 C0 ⟨Nat.le_of_ble_eq_true rfl, Nat.le_of_ble_eq_true rfl⟩) hH hS rfl hl.1 rfl (lv_room (Nat.le_of_ble_eq_true rfl)) d_M_away_37 ⟨by show _ ≤ 0; omega, by show _ ≤ 0; omega⟩) ?_
  refine lv_lstore (lv' := [(6, .long (gapL py.toInt64 (ly b).toInt64 (uy b).toInt64)), (4, .long (gapL px.toInt64 (lx b).toInt64 (ux b).toInt64)), (0, .ref y), (1, .int (nI b)), (2, .int px), (3, .int py)]) hx hb d_M_away_40 hl (by decide) rfl (fun ls hl => ?_)
  refine lv_lload hx hb d_M_away_42 (lv_at hl 1 rfl) ?_
  refine lv_lload hx hb d_M_away_44 (lv_at hl 1 rfl) ?_
  refine lv_lmul hx hb d_M_away_46 ?_
  refine lv_lload hx hb d_M_away_47 (lv_at hl 0 rfl) ?_
  refine lv_lload hx hb d_M_away_49 (lv_at hl 0 rfl) ?_
  refine lv_lmul hx hb d_M_away_51 ?_
  refine lv_ladd hx hb d_M_away_52 ?_
  exact W.lret hx hb hr (fun t ht _ => ⟨by rw [gapL_way, gapL_way]; rfl, ht⟩) (fun _ h => by cases h) d_M_away_53 (hlocks := C0.2.2.2.2.2.2)

set_option maxHeartbeats 4000000 in
set_option maxRecDepth 100000 in
theorem k_M_bound (l : Launch) (G : Gl) (w : World) {y aT aX aY aU aV aR sz : Nat} {tc : Int32} {th lx ly ux uy rf : Nat → Int32} (hM : MAt G w y aT aX aY aU aV aR tc th lx ly ux uy sz rf) (b : Nat) (hb9 : b < 4096) (z : Int32)  :
    PuM l y_M_bound ws_M_bound 0 G w [.ref y, .int (nI b), .int z] (some (.int (bnd (mb lx ly ux uy b) z))) := by
  refine met_ent (by decide +kernel) (Nat.le_of_ble_eq_true rfl) (fun p e s m below meth c ls C0 hr hin hH hl => ?_)
  have hx := C0.1
  have hb := C0.2.1
  have hS : va_S (gA G) s.heap s.heap [] := va_S.rf
  have hA : ∀ q : Nat, s.heap.size ≤ q → gA G q := fun q h => Nat.le_trans C0.ev.2.2.2.2.2.2.2.2.2.2.2.2 h
  have hl : lv_has ls 3 [(0, .ref y), (1, .int (nI b)), (2, .int z)] := hl
  obtain ⟨hY, hT, hX, hYy, hU9, hV, hR, hDi⟩ := id hM
  refine lv_iload_n hx hb d_M_bound_0 rfl (lv_at hl 2 rfl) ?_
  refine lv_if_ne (tgt := 13) hx hb d_M_bound_1 (by decide) (fun c_1 => ?_) (fun c_1 => ?_)
  · refine lv_iload_n hx hb d_M_bound_13 rfl (lv_at hl 2 rfl) ?_
    refine lv_iconst (v := 1) hx hb d_M_bound_14 (by decide) ?_
    refine lv_icmp_ne (tgt := 27) hx hb d_M_bound_15 (by decide) (fun c_15 => ?_) (fun c_15 => ?_)
    · refine lv_iload_n hx hb d_M_bound_27 rfl (lv_at hl 2 rfl) ?_
      refine lv_iconst (v := 2) hx hb d_M_bound_28 (by decide) ?_
      refine lv_icmp_ne (tgt := 41) hx hb d_M_bound_29 (by decide) (fun c_29 => ?_) (fun c_29 => ?_)
      · refine lv_aload_n hx hb d_M_bound_41 rfl (lv_at hl 0 rfl) ?_
        refine gf_M_23 C0 hH hY rfl d_M_bound_42 ?_
        refine lv_iload_n hx hb d_M_bound_45 rfl (lv_at hl 1 rfl) ?_
        refine hd_iald hx hb C0.hK hH 0 hV rfl (vp_in_nI (by omega) (by omega)) d_M_bound_46 ?_
        rw [nI_clamp (by omega)]
        exact W.iret hx hb hr (fun t ht _ => ⟨congrArg (fun z => Outcome.returned (some (Value.int z))) (by unfold bnd mb; rw [if_neg c_1, if_neg c_15, if_neg c_29]), ht⟩) (fun _ h => by cases h) d_M_bound_47 (hlocks := C0.2.2.2.2.2.2)
      · refine lv_aload_n hx hb d_M_bound_32 rfl (lv_at hl 0 rfl) ?_
        refine gf_M_20 C0 hH hY rfl d_M_bound_33 ?_
        refine lv_iload_n hx hb d_M_bound_36 rfl (lv_at hl 1 rfl) ?_
        refine hd_iald hx hb C0.hK hH 0 hU9 rfl (vp_in_nI (by omega) (by omega)) d_M_bound_37 ?_
        rw [nI_clamp (by omega)]
        refine lv_goto (tgt := 47) hx hb d_M_bound_38 (by decide) ?_
        exact W.iret hx hb hr (fun t ht _ => ⟨congrArg (fun z => Outcome.returned (some (Value.int z))) (by unfold bnd mb; rw [if_neg c_1, if_neg c_15, if_pos (c_29)]), ht⟩) (fun _ h => by cases h) d_M_bound_47 (hlocks := C0.2.2.2.2.2.2)
    · refine lv_aload_n hx hb d_M_bound_18 rfl (lv_at hl 0 rfl) ?_
      refine gf_M_17 C0 hH hY rfl d_M_bound_19 ?_
      refine lv_iload_n hx hb d_M_bound_22 rfl (lv_at hl 1 rfl) ?_
      refine hd_iald hx hb C0.hK hH 0 hYy rfl (vp_in_nI (by omega) (by omega)) d_M_bound_23 ?_
      rw [nI_clamp (by omega)]
      refine lv_goto (tgt := 47) hx hb d_M_bound_24 (by decide) ?_
      exact W.iret hx hb hr (fun t ht _ => ⟨congrArg (fun z => Outcome.returned (some (Value.int z))) (by unfold bnd mb; rw [if_neg c_1, if_pos (c_15)]), ht⟩) (fun _ h => by cases h) d_M_bound_47 (hlocks := C0.2.2.2.2.2.2)
  · refine lv_aload_n hx hb d_M_bound_4 rfl (lv_at hl 0 rfl) ?_
    refine gf_M_13 C0 hH hY rfl d_M_bound_5 ?_
    refine lv_iload_n hx hb d_M_bound_8 rfl (lv_at hl 1 rfl) ?_
    refine hd_iald hx hb C0.hK hH 0 hX rfl (vp_in_nI (by omega) (by omega)) d_M_bound_9 ?_
    rw [nI_clamp (by omega)]
    refine lv_goto (tgt := 47) hx hb d_M_bound_10 (by decide) ?_
    exact W.iret hx hb hr (fun t ht _ => ⟨congrArg (fun z => Outcome.returned (some (Value.int z))) (by unfold bnd mb; rw [if_pos (c_1)]), ht⟩) (fun _ h => by cases h) d_M_bound_47 (hlocks := C0.2.2.2.2.2.2)

theorem pk_add0 (n : Nat) : nI n + 0 = nI (n + 0) := nI_add n 0

set_option maxHeartbeats 4000000 in
set_option maxRecDepth 100000 in
theorem k_M_many (l : Launch) (G : Gl) (w : World) {y aT aX aY aU aV aR sz : Nat} {tc : Int32} {th lx ly ux uy rf : Nat → Int32} (hM : MAt G w y aT aX aY aU aV aR tc th lx ly ux uy sz rf)  :
    PuM l y_M_many ws_M_many 0 G w [.ref y] (some (.int (nI (cntT th 4096)))) := by
  refine met_ent (by decide +kernel) (Nat.le_of_ble_eq_true rfl) (fun p e s m below meth c ls C0 hr hin hH hl => ?_)
  have hx := C0.1
  have hb := C0.2.1
  have hS : va_S (gA G) s.heap s.heap [] := va_S.rf
  have hA : ∀ q : Nat, s.heap.size ≤ q → gA G q := fun q h => Nat.le_trans C0.ev.2.2.2.2.2.2.2.2.2.2.2.2 h
  have hl : lv_has ls 3 [(0, .ref y)] := hl
  obtain ⟨hY, hT, hX, hYy, hU9, hV, hR, hDi⟩ := id hM
  refine lv_iconst (v := 0) hx hb d_M_many_0 (by decide) ?_
  refine lv_istore_n (lv' := [(1, .int 0), (0, .ref y)]) hx hb d_M_many_1 rfl hl (by decide) rfl (fun ls hl => ?_)
  refine lv_iconst (v := 0) hx hb d_M_many_2 (by decide) ?_
  refine lv_istore_n (lv' := [(2, .int 0), (1, .int 0), (0, .ref y)]) hx hb d_M_many_3 rfl hl (by decide) rfl (fun ls hl => ?_)
  have loop : ∀ (u j : Nat), j + u = 4096 → ∀ ls : Array Slot, lv_has ls 3 [(0, .ref y), (1, .int (nI (cntT th j))), (2, .int (nI j))] → W p l e (rmK 0 0 0) s m [.ref y].toArray below meth c s.heap [] 0 0 (MQ below (PuQ (some (.int (nI (cntT th 4096))))) [.ref y].toArray s 0 0 (fun _ => False)) (F0 m 4 ls []) := by
    intro u
    induction u with
    | zero =>
      intro j hj ls hl
      have hcn := cntT_le th j
      refine lv_iload_n hx hb d_M_many_4 rfl (lv_at hl 2 rfl) ?_
      refine lv_sipush (v := 4096) hx hb d_M_many_5 (by decide) ?_
      refine lv_icmp_ge (tgt := 34) hx hb d_M_many_8 (by decide) (fun c_8 => ?_) (fun c_8 => ?_)
      · refine lv_iload_n hx hb d_M_many_34 rfl (lv_at hl 1 rfl) ?_
        exact W.iret hx hb hr (fun t ht _ => ⟨by rw [show j = 4096 by omega], ht⟩) (fun _ h => by cases h) d_M_many_35 (hlocks := C0.2.2.2.2.2.2)
      · exact absurd (show nI 4096 ≤ nI j from nI_le (by omega) (by omega)) c_8
    | succ u ih =>
      intro j hj ls hl
      have hcn := cntT_le th j
      refine lv_iload_n hx hb d_M_many_4 rfl (lv_at hl 2 rfl) ?_
      refine lv_sipush (v := 4096) hx hb d_M_many_5 (by decide) ?_
      refine lv_icmp_ge (tgt := 34) hx hb d_M_many_8 (by decide) (fun c_8 => ?_) (fun c_8 => ?_)
      · exact absurd c_8 (Int32.not_le.mpr (show nI j < nI 4096 from nI_lt (by omega) (by omega)))
      · refine lv_iload_n hx hb d_M_many_11 rfl (lv_at hl 1 rfl) ?_
        refine lv_aload_n hx hb d_M_many_12 rfl (lv_at hl 0 rfl) ?_
        refine gf_M_7 C0 hH hY rfl d_M_many_13 ?_
        refine lv_iload_n hx hb d_M_many_16 rfl (lv_at hl 2 rfl) ?_
        refine hd_zald hx hb C0.hK hH 2 hT rfl (vp_in_nI (by omega) (by omega)) d_M_many_17 ?_
        rw [nI_clamp (by omega)]
        refine lv_if_eq (tgt := 25) hx hb d_M_many_18 (by decide) (fun c_18 => ?_) (fun c_18 => ?_)
        · refine lv_iconst (v := 0) hx hb d_M_many_25 (by decide) ?_
          refine lv_iadd hx hb d_M_many_26 ?_
          refine lv_istore_n (lv' := [(1, .int ((nI (cntT th j)) + 0)), (0, .ref y), (2, .int (nI j))]) hx hb d_M_many_27 rfl hl (by decide) rfl (fun ls hl => ?_)
          obtain ⟨y_1, ey_1⟩ : ∃ z : Int32, z = (nI j) + 1 := ⟨_, rfl⟩
          refine lv_iinc (v := y_1) (lv' := [(2, .int y_1), (1, .int ((nI (cntT th j)) + 0)), (0, .ref y)]) hx hb d_M_many_28 hl (k := 2) rfl (by rw [ey_1]; rfl) (by decide) rfl (fun ls hl => ?_)
          refine lv_goto (tgt := 4) hx hb d_M_many_31 (by decide) ?_
          rw [show y_1 = nI (j + 1) from by rw [ey_1]; exact nI_1 j, show ((nI (cntT th j)) + 0) = nI (cntT th (j + 1)) from by rw [cntT, if_pos c_18]; exact pk_add0 _] at hl
          exact ih (j + 1) (by omega) ls (lv_sub hl [2, 1, 0] rfl)
        · refine lv_iconst (v := 1) hx hb d_M_many_21 (by decide) ?_
          refine lv_goto (tgt := 26) hx hb d_M_many_22 (by decide) ?_
          refine lv_iadd hx hb d_M_many_26 ?_
          refine lv_istore_n (lv' := [(1, .int ((nI (cntT th j)) + 1)), (0, .ref y), (2, .int (nI j))]) hx hb d_M_many_27 rfl hl (by decide) rfl (fun ls hl => ?_)
          obtain ⟨y_2, ey_2⟩ : ∃ z : Int32, z = (nI j) + 1 := ⟨_, rfl⟩
          refine lv_iinc (v := y_2) (lv' := [(2, .int y_2), (1, .int ((nI (cntT th j)) + 1)), (0, .ref y)]) hx hb d_M_many_28 hl (k := 2) rfl (by rw [ey_2]; rfl) (by decide) rfl (fun ls hl => ?_)
          refine lv_goto (tgt := 4) hx hb d_M_many_31 (by decide) ?_
          rw [show y_2 = nI (j + 1) from by rw [ey_2]; exact nI_1 j, show ((nI (cntT th j)) + 1) = nI (cntT th (j + 1)) from by rw [cntT, if_neg c_18]; exact nI_1 _] at hl
          exact ih (j + 1) (by omega) ls (lv_sub hl [2, 1, 0] rfl)
  exact loop 4096 0 rfl ls (lv_sub hl [2, 1, 0] rfl)

set_option maxHeartbeats 4000000 in
set_option maxRecDepth 100000 in
theorem k_M_isThere (l : Launch) (G : Gl) (w : World) {y aT aX aY aU aV aR sz : Nat} {tc : Int32} {th lx ly ux uy rf : Nat → Int32} (hM : MAt G w y aT aX aY aU aV aR tc th lx ly ux uy sz rf) (b : Nat) (hb9 : b < 4096)  :
    PuM l y_M_isThere ws_M_isThere 1 G w [.ref y, .int (nI b)] (some (.int (b01 (th b ≠ 0)))) := by
  refine met_ent (by decide +kernel) (Nat.le_of_ble_eq_true rfl) (fun p e s m below meth c ls C0 hr hin hH hl => ?_)
  have hx := C0.1
  have hb := C0.2.1
  have hS : va_S (gA G) s.heap s.heap [] := va_S.rf
  have hA : ∀ q : Nat, s.heap.size ≤ q → gA G q := fun q h => Nat.le_trans C0.ev.2.2.2.2.2.2.2.2.2.2.2.2 h
  have hl : lv_has ls 2 [(0, .ref y), (1, .int (nI b))] := hl
  obtain ⟨hY, hT, hX, hYy, hU9, hV, hR, hDi⟩ := id hM
  refine lv_iload_n hx hb d_M_isThere_0 rfl (lv_at hl 1 rfl) ?_
  refine lv_iconst (v := 0) hx hb d_M_isThere_1 (by decide) ?_
  refine lv_sipush (v := 4095) hx hb d_M_isThere_2 (by decide) ?_
  refine pu_v (runS C0 (k_M_within l G w (nI b) 0 4095) (cs_M_35 C0 ⟨Nat.le_of_ble_eq_true rfl, Nat.le_of_ble_eq_true rfl⟩) hH hS rfl hl.1 rfl (lv_room (Nat.le_of_ble_eq_true rfl)) d_M_isThere_5 ⟨by show _ ≤ 0; omega, by show _ ≤ 0; omega⟩) ?_
  refine lv_if_eq (tgt := 24) hx hb d_M_isThere_8 (by decide) (fun c_8 => ?_) (fun c_8 => ?_)
  · refine lv_iconst (v := 0) hx hb d_M_isThere_24 (by decide) ?_
    exact W.zret hx hb hr rfl (fun t ht _ => ⟨congrArg (fun z => Outcome.returned (some (Value.int z))) (absurd ((b01_t (show (0 : Int32) ≤ nI b ∧ nI b ≤ 4095 from ⟨show nI 0 ≤ nI b from nI_le (Nat.zero_le _) (by omega), show nI b ≤ nI 4095 from nI_le (by omega) (by omega)⟩)).symm.trans c_8) (by decide)), ht⟩) (fun _ h => by cases h) d_M_isThere_25 (hlocks := C0.2.2.2.2.2.2)
  · refine lv_aload_n hx hb d_M_isThere_11 rfl (lv_at hl 0 rfl) ?_
    refine gf_M_7 C0 hH hY rfl d_M_isThere_12 ?_
    refine lv_iload_n hx hb d_M_isThere_15 rfl (lv_at hl 1 rfl) ?_
    refine hd_zald hx hb C0.hK hH 2 hT rfl (vp_in_nI (by omega) (by omega)) d_M_isThere_16 ?_
    rw [nI_clamp (by omega)]
    refine lv_if_eq (tgt := 24) hx hb d_M_isThere_17 (by decide) (fun c_17 => ?_) (fun c_17 => ?_)
    · refine lv_iconst (v := 0) hx hb d_M_isThere_24 (by decide) ?_
      exact W.zret hx hb hr rfl (fun t ht _ => ⟨congrArg (fun z => Outcome.returned (some (Value.int z))) (b01_f (fun h => h c_17)).symm, ht⟩) (fun _ h => by cases h) d_M_isThere_25 (hlocks := C0.2.2.2.2.2.2)
    · refine lv_iconst (v := 1) hx hb d_M_isThere_20 (by decide) ?_
      refine lv_goto (tgt := 25) hx hb d_M_isThere_21 (by decide) ?_
      exact W.zret hx hb hr rfl (fun t ht _ => ⟨congrArg (fun z => Outcome.returned (some (Value.int z))) (b01_t c_17).symm, ht⟩) (fun _ h => by cases h) d_M_isThere_25 (hlocks := C0.2.2.2.2.2.2)

set_option maxHeartbeats 4000000 in
set_option maxRecDepth 100000 in
theorem k_M_isThere0 (l : Launch) (G : Gl) (w : World) {y aT aX aY aU aV aR sz : Nat} {tc : Int32} {th lx ly ux uy rf : Nat → Int32} (hM : MAt G w y aT aX aY aU aV aR tc th lx ly ux uy sz rf) (n : Int32) (hn9 : ¬ okN n) :
    PuM l y_M_isThere ws_M_isThere 1 G w [.ref y, .int n] (some (.int 0)) := by
  refine met_ent (by decide +kernel) (Nat.le_of_ble_eq_true rfl) (fun p e s m below meth c ls C0 hr hin hH hl => ?_)
  have hx := C0.1
  have hb := C0.2.1
  have hS : va_S (gA G) s.heap s.heap [] := va_S.rf
  have hA : ∀ q : Nat, s.heap.size ≤ q → gA G q := fun q h => Nat.le_trans C0.ev.2.2.2.2.2.2.2.2.2.2.2.2 h
  have hl : lv_has ls 2 [(0, .ref y), (1, .int n)] := hl
  obtain ⟨hY, hT, hX, hYy, hU9, hV, hR, hDi⟩ := id hM
  refine lv_iload_n hx hb d_M_isThere_0 rfl (lv_at hl 1 rfl) ?_
  refine lv_iconst (v := 0) hx hb d_M_isThere_1 (by decide) ?_
  refine lv_sipush (v := 4095) hx hb d_M_isThere_2 (by decide) ?_
  refine pu_v (runS C0 (k_M_within l G w n 0 4095) (cs_M_35 C0 ⟨Nat.le_of_ble_eq_true rfl, Nat.le_of_ble_eq_true rfl⟩) hH hS rfl hl.1 rfl (lv_room (Nat.le_of_ble_eq_true rfl)) d_M_isThere_5 ⟨by show _ ≤ 0; omega, by show _ ≤ 0; omega⟩) ?_
  refine lv_if_eq (tgt := 24) hx hb d_M_isThere_8 (by decide) (fun c_8 => ?_) (fun c_8 => ?_)
  · refine lv_iconst (v := 0) hx hb d_M_isThere_24 (by decide) ?_
    exact W.zret hx hb hr rfl (fun t ht _ => ⟨rfl, ht⟩) (fun _ h => by cases h) d_M_isThere_25 (hlocks := C0.2.2.2.2.2.2)
  · exact absurd (b01_f (fun h => hn9 (by unfold okN; have a := h.1; have b := h.2; revert a b; simp only [Int32.le_iff_toInt_le, Int32.lt_iff_toInt_lt, tI4096, tI0, show (4095 : Int32).toInt = 4095 from rfl]; omega))) c_8
