/-! constructors; the list's own writes -/
section E0
variable {p : Program} {l : Launch} {e : Env} {R : Room} {s : State} {m : MethodId} {args : Array Value} {below : List Frame} {meth : Method} {c : Code} {H : Heap} {locs : List Loc} {cells slots : Nat} {Q : State → Prop}
variable {G : Gl} {cc : ByteArray} {nL pc : Nat} {own : String} {ls : Array Slot} {rest : List Value}
/-- the empty array that a new list has -/
theorem e0_len (C0 : Cx G p s m args c cc nL own meth) (hS : va_S (gA G) s.heap H locs) (hdg : decode cc pc = .ok (.arraylength, 1)) (kk : W p l e R s m args below meth c H locs cells slots Q (F0 m (pc + 1) ls (.int (nI 0) :: rest))) : W p l e R s m args below meth c H locs cells slots Q (F0 m pc ls (.ref (ge0 G) :: rest)) := by
  obtain ⟨cell, h1, h2, h3, h4, h5, h6, h7⟩ := C0.ev.2.2.1
  exact W.alen C0.1 C0.2.1 (by rw [hS.2.1 _ (Array.getElem?_eq_some_iff.mp h1).1 h7]; exact h1) h2 h5 rfl rfl hdg kk
end E0

set_option maxHeartbeats 4000000 in
set_option maxRecDepth 100000 in
theorem k_AC_init (l : Launch) (G : Gl) (w : World) (q : Nat) :
    PuM l y_AC_init ws_AC_init 1 G w [.ref q] none := by
  refine met_ent (by decide +kernel) (Nat.le_of_ble_eq_true rfl) (fun p e s m below meth c ls C0 hr hin hH hl => ?_)
  have hx := C0.1
  have hb := C0.2.1
  have hS : va_S (gA G) s.heap s.heap [] := va_S.rf
  have hl : lv_has ls 1 [(0, .ref q)] := hl
  refine lv_aload_n hx hb d_AC_init_0 rfl (lv_at hl 0 rfl) ?_
  refine W.objInit hx hb C0.2.2.2.1 (C0.2.2.2.2.1 _ mw_44) (C0.2.2.2.2.1 _ mw_31) (C0.2.2.2.2.1 _ mw_32) rfl (hl.1.trans C0.2.2.1.symm) rfl d_AC_init_1 (Nat.le_of_ble_eq_true rfl) (Nat.le_of_ble_eq_true rfl) ?_
  refine W.eq (g2 := F0 m 4 ls []) rfl ?_
  exact W.vret hx hb hr (fun t ht _ => ⟨rfl, ht⟩) (fun _ h => by cases h) d_AC_init_4 (hlocks := C0.2.2.2.2.2.2)

set_option maxHeartbeats 4000000 in
set_option maxRecDepth 100000 in
theorem k_AL_init (l : Launch) (G : Gl) (w : World) {L : Nat} {a b c9 : Value} (hL : w L = some (.inr (0, [a, b, c9]))) :
    GnV l y_AL_init ws_AL_init 2 0 0 G w [.ref L] (fun w1 => w1 = va_up w L (some (.inr (0, [.int 0, b, c9])))) := by
  refine met_ent (by decide +kernel) (Nat.le_of_ble_eq_true rfl) (fun p e s m below meth c ls C0 hr hin hH hl => ?_)
  have hx := C0.1
  have hb := C0.2.1
  have hS : va_S (gA G) s.heap s.heap [] := va_S.rf
  have hA : ∀ q : Nat, s.heap.size ≤ q → gA G q := fun q h => Nat.le_trans C0.ev.2.2.2.2.2.2.2.2.2.2.2.2 h
  have hl : lv_has ls 1 [(0, .ref L)] := hl
  refine lv_aload_n hx hb d_AL_init_0 rfl (lv_at hl 0 rfl) ?_
  refine pu_n (runI C0 (k_AC_init l G w L) (cs_AL_1 C0 ⟨(Nat.le_of_ble_eq_true rfl), (Nat.le_of_ble_eq_true rfl)⟩) hH hS rfl hl.1 rfl (lv_room (Nat.le_of_ble_eq_true rfl)) d_AL_init_1 ⟨Nat.zero_le _, Nat.zero_le _⟩) ?_
  refine lv_aload_n hx hb d_AL_init_4 rfl (lv_at hl 0 rfl) ?_
  refine lv_iconst (v := 0) hx hb d_AL_init_5 (by decide) ?_
  refine pf_AL_7 C0 hH hS hL rfl rfl (Nat.le_of_ble_eq_true rfl) d_AL_init_6 (fun H locs hH hS => ?_)
  obtain ⟨w1, ew1⟩ : ∃ z : World, z = va_up w L (some (.inr (0, [.int 0, b, c9]))) := ⟨_, rfl⟩
  have hH : Hw G w1 H := by rw [ew1]; exact hH
  have hw1_L : w1 L = some (.inr (0, [.int 0, b, c9])) := by rw [ew1]; exact va_up_self _ _ _
  refine W.widen (k := 0) (n := 0) (by omega) (by omega) ?_
  exact W.vret hx hb hr (fun t ht hW => ⟨⟨w1, rfl, ew1, Wo.at C0.ev hH hS ht hW⟩, hS.F ht⟩) hS.2.2 d_AL_init_9 (hlocks := C0.2.2.2.2.2.2)

set_option maxHeartbeats 4000000 in
set_option maxRecDepth 100000 in
theorem k_A_init (l : Launch) (G : Gl) (w : World) {L : Nat} {a b c9 : Value} (hL : w L = some (.inr (0, [a, b, c9]))) :
    GnV l y_A_init ws_A_init 3 0 0 G w [.ref L] (fun w1 => w1 = va_up w L (some (.inr (0, [.int 0, .ref (ge0 G), c9])))) := by
  refine met_ent (by decide +kernel) (Nat.le_of_ble_eq_true rfl) (fun p e s m below meth c ls C0 hr hin hH hl => ?_)
  have hx := C0.1
  have hb := C0.2.1
  have hS : va_S (gA G) s.heap s.heap [] := va_S.rf
  have hA : ∀ q : Nat, s.heap.size ≤ q → gA G q := fun q h => Nat.le_trans C0.ev.2.2.2.2.2.2.2.2.2.2.2.2 h
  have hl : lv_has ls 1 [(0, .ref L)] := hl
  refine lv_aload_n hx hb d_A_init_0 rfl (lv_at hl 0 rfl) ?_
  refine gn_v (runI C0 (k_AL_init l G w hL) (cs_A_1 C0 ⟨Nat.le_of_ble_eq_true rfl, Nat.le_of_ble_eq_true rfl⟩) hH hS rfl hl.1 rfl (lv_room (Nat.le_of_ble_eq_true rfl)) d_A_init_1 ⟨by show _ ≤ 0; omega, by show _ ≤ 0; omega⟩) hS (fun w1 H locs hp1 hH hS => ?_)
  have ew1 := hp1
  have hw1_L : w1 L = some (.inr (0, [.int 0, b, c9])) := by rw [ew1]; exact va_up_self _ _ _
  refine lv_aload_n hx hb d_A_init_4 rfl (lv_at hl 0 rfl) ?_
  refine va_gets hx hb C0.ev.2.1 hS C0.2.2.2.1 (C0.2.2.2.2.1 _ mw_45) (fun _ h => h) d_A_init_5 ?_
  refine pf_A_9 C0 hH hS hw1_L rfl rfl (Nat.le_of_ble_eq_true rfl) d_A_init_8 (fun H locs hH hS => ?_)
  obtain ⟨w2, ew2⟩ : ∃ z : World, z = va_up w1 L (some (.inr (0, [.int 0, .ref (ge0 G), c9]))) := ⟨_, rfl⟩
  have hH : Hw G w2 H := by rw [ew2]; exact hH
  have hw2_L : w2 L = some (.inr (0, [.int 0, .ref (ge0 G), c9])) := by rw [ew2]; exact va_up_self _ _ _
  refine W.widen (k := 0) (n := 0) (by omega) (by omega) ?_
  exact W.vret hx hb hr (fun t ht hW => ⟨⟨w2, rfl, by rw [ew2, ew1, bx_uu], Wo.at C0.ev hH hS ht hW⟩, hS.F ht⟩) hS.2.2 d_A_init_11 (hlocks := C0.2.2.2.2.2.2)

set_option maxHeartbeats 4000000 in
set_option maxRecDepth 100000 in
theorem k_X_init (l : Launch) (G : Gl) (w : World) {q : Nat} {a b c9 d e9 : Value} (n lx ly hx1 hy1 : Int32) (hq : w q = some (.inr (1, [a, b, c9, d, e9]))) :
    GnV l y_X_init ws_X_init 1 0 0 G w [.ref q, .int n, .int lx, .int ly, .int hx1, .int hy1] (fun w1 => w1 = va_up w q (some (.inr (1, bxf (n, lx, ly, hx1, hy1))))) := by
  refine met_ent (by decide +kernel) (Nat.le_of_ble_eq_true rfl) (fun p e s m below meth c ls C0 hr hin hH hl => ?_)
  have hx := C0.1
  have hb := C0.2.1
  have hS : va_S (gA G) s.heap s.heap [] := va_S.rf
  have hA : ∀ q : Nat, s.heap.size ≤ q → gA G q := fun q h => Nat.le_trans C0.ev.2.2.2.2.2.2.2.2.2.2.2.2 h
  have hl : lv_has ls 6 [(0, .ref q), (1, .int n), (2, .int lx), (3, .int ly), (4, .int hx1), (5, .int hy1)] := hl
  refine lv_aload_n hx hb d_X_init_0 rfl (lv_at hl 0 rfl) ?_
  refine W.objInit hx hb C0.2.2.2.1 (C0.2.2.2.2.1 _ mw_250) (C0.2.2.2.2.1 _ mw_31) (C0.2.2.2.2.1 _ mw_32) rfl (hl.1.trans C0.2.2.1.symm) rfl d_X_init_1 (Nat.le_of_ble_eq_true rfl) (Nat.le_of_ble_eq_true rfl) ?_
  refine W.eq (g2 := F0 m 4 ls []) rfl ?_
  refine lv_aload_n hx hb d_X_init_4 rfl (lv_at hl 0 rfl) ?_
  refine lv_iload_n hx hb d_X_init_5 rfl (lv_at hl 1 rfl) ?_
  refine pf_X_9 C0 (hin rfl) hH hS hq rfl rfl (Nat.le_of_ble_eq_true rfl) d_X_init_6 (fun H locs hH hS => ?_)
  obtain ⟨w1, ew1⟩ : ∃ z : World, z = va_up w q (some (.inr (1, [.int n, b, c9, d, e9]))) := ⟨_, rfl⟩
  have hH : Hw G w1 H := by rw [ew1]; exact hH
  have hw1_q : w1 q = some (.inr (1, [.int n, b, c9, d, e9])) := by rw [ew1]; exact va_up_self _ _ _
  refine lv_aload_n hx hb d_X_init_9 rfl (lv_at hl 0 rfl) ?_
  refine lv_iload_n hx hb d_X_init_10 rfl (lv_at hl 2 rfl) ?_
  refine pf_X_15 C0 (hin rfl) hH hS hw1_q rfl rfl (Nat.le_of_ble_eq_true rfl) d_X_init_11 (fun H locs hH hS => ?_)
  obtain ⟨w2, ew2⟩ : ∃ z : World, z = va_up w1 q (some (.inr (1, [.int n, .int lx, c9, d, e9]))) := ⟨_, rfl⟩
  have hH : Hw G w2 H := by rw [ew2]; exact hH
  have hw2_q : w2 q = some (.inr (1, [.int n, .int lx, c9, d, e9])) := by rw [ew2]; exact va_up_self _ _ _
  refine lv_aload_n hx hb d_X_init_14 rfl (lv_at hl 0 rfl) ?_
  refine lv_iload_n hx hb d_X_init_15 rfl (lv_at hl 3 rfl) ?_
  refine pf_X_18 C0 (hin rfl) hH hS hw2_q rfl rfl (Nat.le_of_ble_eq_true rfl) d_X_init_16 (fun H locs hH hS => ?_)
  obtain ⟨w3, ew3⟩ : ∃ z : World, z = va_up w2 q (some (.inr (1, [.int n, .int lx, .int ly, d, e9]))) := ⟨_, rfl⟩
  have hH : Hw G w3 H := by rw [ew3]; exact hH
  have hw3_q : w3 q = some (.inr (1, [.int n, .int lx, .int ly, d, e9])) := by rw [ew3]; exact va_up_self _ _ _
  refine lv_aload_n hx hb d_X_init_19 rfl (lv_at hl 0 rfl) ?_
  refine lv_iload hx hb d_X_init_20 (lv_at hl 4 rfl) ?_
  refine pf_X_21 C0 (hin rfl) hH hS hw3_q rfl rfl (Nat.le_of_ble_eq_true rfl) d_X_init_22 (fun H locs hH hS => ?_)
  obtain ⟨w4, ew4⟩ : ∃ z : World, z = va_up w3 q (some (.inr (1, [.int n, .int lx, .int ly, .int hx1, e9]))) := ⟨_, rfl⟩
  have hH : Hw G w4 H := by rw [ew4]; exact hH
  have hw4_q : w4 q = some (.inr (1, [.int n, .int lx, .int ly, .int hx1, e9])) := by rw [ew4]; exact va_up_self _ _ _
  refine lv_aload_n hx hb d_X_init_25 rfl (lv_at hl 0 rfl) ?_
  refine lv_iload hx hb d_X_init_26 (lv_at hl 5 rfl) ?_
  refine pf_X_24 C0 (hin rfl) hH hS hw4_q rfl rfl (Nat.le_of_ble_eq_true rfl) d_X_init_28 (fun H locs hH hS => ?_)
  obtain ⟨w5, ew5⟩ : ∃ z : World, z = va_up w4 q (some (.inr (1, [.int n, .int lx, .int ly, .int hx1, .int hy1]))) := ⟨_, rfl⟩
  have hH : Hw G w5 H := by rw [ew5]; exact hH
  have hw5_q : w5 q = some (.inr (1, [.int n, .int lx, .int ly, .int hx1, .int hy1])) := by rw [ew5]; exact va_up_self _ _ _
  refine W.widen (k := 0) (n := 0) (by omega) (by omega) ?_
  exact W.vret hx hb hr (fun t ht hW => ⟨⟨w5, rfl, by rw [ew5, ew4, ew3, ew2, ew1, bx_uu, bx_uu, bx_uu, bx_uu], Wo.at C0.ev hH hS ht hW⟩, hS.F ht⟩) hS.2.2 d_X_init_31 (hlocks := C0.2.2.2.2.2.2)

/-- a new drawer -/
def NewQ (G : Gl) (w w1 : World) (x : Nat) : Prop := ∃ L F Gd : Nat, w L = none ∧ w F = none ∧ w Gd = none ∧ L ≠ F ∧ L ≠ Gd ∧ F ≠ Gd ∧ w1 x = some (.inr (2, [.ref L, .ref F, .int (nI 0), .ref Gd])) ∧ w1 L = some (.inr (0, [.int 0, .ref (ge0 G), .int (nI 0)])) ∧ w1 F = some (.inl (G.2.1.1, 16, .inl (fun _ => 0))) ∧ w1 Gd = some (.inl (G.2.1.2.1, 16, .inr (.inl (fun _ => 0)))) ∧ Kp w w1 [x]
theorem up_none {w : World} {a b : Nat} {e : va_E} (h : va_up w a (some e) b = none) : w b = none := by
  by_cases q : b = a
  · subst q; rw [va_up_self] at h; cases h
  · rw [va_up_ne _ _ q] at h; exact h
theorem Kp.ups {w w1 : World} {a : Nat} {e : va_E} {S : List Nat} (h : Kp w w1 S) (ha : a ∈ S ∨ w a = none) : Kp w (va_up w1 a (some e)) S := h.trans (Kp.up (S := [a]) (Or.inl (List.mem_cons_self ..))) (fun b hb => by
  have : b = a := List.mem_singleton.mp hb
  rw [this]; exact ha)

set_option maxHeartbeats 4000000 in
set_option maxRecDepth 100000 in
theorem k_B_init (l : Launch) (G : Gl) (w : World) {x : Nat} (hB : w x = some (.inr (2, [.null, .null, .int 0, .null]))) :
    GnV l y_B_init ws_B_init 4 3 35 G w [.ref x] (fun w1 => NewQ G w w1 x) := by
  refine met_ent (by decide +kernel) (Nat.le_of_ble_eq_true rfl) (fun p e s m below meth c ls C0 hr hin hH hl => ?_)
  have hx := C0.1
  have hb := C0.2.1
  have hS : va_S (gA G) s.heap s.heap [] := va_S.rf
  have hA : ∀ q : Nat, s.heap.size ≤ q → gA G q := fun q h => Nat.le_trans C0.ev.2.2.2.2.2.2.2.2.2.2.2.2 h
  have hl : lv_has ls 1 [(0, .ref x)] := hl
  refine lv_aload_n hx hb d_B_init_0 rfl (lv_at hl 0 rfl) ?_
  refine W.objInit hx hb C0.2.2.2.1 (C0.2.2.2.2.1 _ mw_30) (C0.2.2.2.2.1 _ mw_31) (C0.2.2.2.2.1 _ mw_32) rfl (hl.1.trans C0.2.2.1.symm) rfl d_B_init_1 (Nat.le_of_ble_eq_true rfl) (Nat.le_of_ble_eq_true rfl) ?_
  refine W.eq (g2 := F0 m 4 ls []) rfl ?_
  refine lv_aload_n hx hb d_B_init_4 rfl (lv_at hl 0 rfl) ?_
  refine hd_new (ci := 0) (fs := [.int 0, .null, .int 0]) hx hb C0.2.2.2.2.1 in_A tyA tyA_ok C0.2.2.2.1 (C0.2.2.2.2.1 _ mw_33) (C0.2.2.2.2.1 _ mw_34) (C0.2.2.2.2.1 _ mw_4) C0.hK hH hS hA rfl (fun j hj => by rcases (show j = 0 ∨ j = 1 ∨ j = 2 by omega) with rfl | rfl | rfl <;> rfl) (by show _ ≤ 3; omega) (by show _ ≤ 35; omega) d_B_init_5 (fun q5 H hnq5 hH hS => ?_)
  obtain ⟨w1, ew1⟩ : ∃ z : World, z = va_up w q5 (some (.inr (0, [.int 0, .null, .int 0]))) := ⟨_, rfl⟩
  have hH : Hw G w1 H := by rw [ew1]; exact hH
  have hw1_x : w1 x = some (.inr (2, [.null, .null, .int 0, .null])) := by rw [ew1, va_up_ne _ _ (wnf hB hnq5)]; exact hB
  have hw1_q5 : w1 q5 = some (.inr (0, [.int 0, .null, .int 0])) := by rw [ew1]; exact va_up_self _ _ _
  refine lv_dup hx hb d_B_init_8 rfl ?_
  refine gn_v (runI C0 (k_A_init l G w1 hw1_q5) (cs_B_9 C0 ⟨Nat.le_of_ble_eq_true rfl, Nat.le_of_ble_eq_true rfl⟩) hH hS rfl hl.1 rfl (lv_room (Nat.le_of_ble_eq_true rfl)) d_B_init_9 ⟨by show _ ≤ 3; omega, by show _ ≤ 35; omega⟩) hS (fun w2 H locs hp2 hH hS => ?_)
  have ew2 := hp2
  have hw2_q5 : w2 q5 = some (.inr (0, [.int 0, .ref (ge0 G), .int 0])) := by rw [ew2]; exact va_up_self _ _ _
  have hw2_x : w2 x = some (.inr (2, [.null, .null, .int 0, .null])) := by rw [ew2, va_up_ne _ _ (wne hw1_x hw1_q5 (by simp))]; exact hw1_x
  refine pf_B_10 C0 (hin rfl) hH hS hw2_x rfl rfl (Nat.le_of_ble_eq_true rfl) d_B_init_12 (fun H locs hH hS => ?_)
  obtain ⟨w3, ew3⟩ : ∃ z : World, z = va_up w2 x (some (.inr (2, [.ref q5, .null, .int 0, .null]))) := ⟨_, rfl⟩
  have hH : Hw G w3 H := by rw [ew3]; exact hH
  have hw3_q5 : w3 q5 = some (.inr (0, [.int 0, .ref (ge0 G), .int 0])) := by rw [ew3, va_up_ne _ _ ((wnf hB hnq5).symm)]; exact hw2_q5
  have hw3_x : w3 x = some (.inr (2, [.ref q5, .null, .int 0, .null])) := by rw [ew3]; exact va_up_self _ _ _
  refine lv_aload_n hx hb d_B_init_15 rfl (lv_at hl 0 rfl) ?_
  refine lv_bipush (v := 16) hx hb d_B_init_16 (by decide) ?_
  refine hd_newa (atype := .int) (N' := 16) (a0 := (16, .inl (fun _ => 0))) hx hb (C0.2.2.2.2.1 _ mw_72) rfl (by intro C h; cases h) C0.hK 0 rfl hH hS hA (fun _ => rfl) (by decide) (by decide) (by show _ * 4 ≤ _; omega) (by show _ ≤ 3; omega) (by show _ ≤ 35; omega) d_B_init_18 (fun q18 H hnq18 hH hS => ?_)
  obtain ⟨w4, ew4⟩ : ∃ z : World, z = va_up w3 q18 (some (.inl (G.2.1.1, 16, .inl (fun _ => 0)))) := ⟨_, rfl⟩
  have hH : Hw G w4 H := by rw [ew4]; exact hH
  have hw4_q5 : w4 q5 = some (.inr (0, [.int 0, .ref (ge0 G), .int 0])) := by rw [ew4, va_up_ne _ _ (wnf hw3_q5 hnq18)]; exact hw3_q5
  have hw4_x : w4 x = some (.inr (2, [.ref q5, .null, .int 0, .null])) := by rw [ew4, va_up_ne _ _ (wnf hw3_x hnq18)]; exact hw3_x
  have hw4_q18 : w4 q18 = some (.inl (G.2.1.1, 16, .inl (fun _ => 0))) := by rw [ew4]; exact va_up_self _ _ _
  refine pf_B_16 C0 hH hS hw4_x rfl rfl (Nat.le_of_ble_eq_true rfl) d_B_init_20 (fun H locs hH hS => ?_)
  obtain ⟨w5, ew5⟩ : ∃ z : World, z = va_up w4 x (some (.inr (2, [.ref q5, .ref q18, .int 0, .null]))) := ⟨_, rfl⟩
  have hH : Hw G w5 H := by rw [ew5]; exact hH
  have hw5_q5 : w5 q5 = some (.inr (0, [.int 0, .ref (ge0 G), .int 0])) := by rw [ew5, va_up_ne _ _ ((wnf hB hnq5).symm)]; exact hw4_q5
  have hw5_q18 : w5 q18 = some (.inl (G.2.1.1, 16, .inl (fun _ => 0))) := by rw [ew5, va_up_ne _ _ ((wnf hw3_x hnq18).symm)]; exact hw4_q18
  have hw5_x : w5 x = some (.inr (2, [.ref q5, .ref q18, .int 0, .null])) := by rw [ew5]; exact va_up_self _ _ _
  refine lv_aload_n hx hb d_B_init_23 rfl (lv_at hl 0 rfl) ?_
  refine lv_iconst (v := 0) hx hb d_B_init_24 (by decide) ?_
  refine pf_B_20 C0 hH hS hw5_x rfl rfl (Nat.le_of_ble_eq_true rfl) d_B_init_25 (fun H locs hH hS => ?_)
  obtain ⟨w6, ew6⟩ : ∃ z : World, z = va_up w5 x (some (.inr (2, [.ref q5, .ref q18, .int 0, .null]))) := ⟨_, rfl⟩
  have hH : Hw G w6 H := by rw [ew6]; exact hH
  have hw6_q5 : w6 q5 = some (.inr (0, [.int 0, .ref (ge0 G), .int 0])) := by rw [ew6, va_up_ne _ _ ((wnf hB hnq5).symm)]; exact hw5_q5
  have hw6_q18 : w6 q18 = some (.inl (G.2.1.1, 16, .inl (fun _ => 0))) := by rw [ew6, va_up_ne _ _ ((wnf hw3_x hnq18).symm)]; exact hw5_q18
  have hw6_x : w6 x = some (.inr (2, [.ref q5, .ref q18, .int 0, .null])) := by rw [ew6]; exact va_up_self _ _ _
  refine lv_aload_n hx hb d_B_init_28 rfl (lv_at hl 0 rfl) ?_
  refine lv_bipush (v := 16) hx hb d_B_init_29 (by decide) ?_
  refine hd_newa (atype := .long) (N' := 16) (a0 := (16, .inr (.inl (fun _ => 0)))) hx hb (C0.2.2.2.2.1 _ mw_73) rfl (by intro C h; cases h) C0.hK 1 rfl hH hS hA (fun _ => rfl) (by decide) (by decide) (by show _ * 8 ≤ _; omega) (by show _ ≤ 3; omega) (by show _ ≤ 35; omega) d_B_init_31 (fun q31 H hnq31 hH hS => ?_)
  obtain ⟨w7, ew7⟩ : ∃ z : World, z = va_up w6 q31 (some (.inl (G.2.1.2.1, 16, .inr (.inl (fun _ => 0))))) := ⟨_, rfl⟩
  have hH : Hw G w7 H := by rw [ew7]; exact hH
  have hw7_q5 : w7 q5 = some (.inr (0, [.int 0, .ref (ge0 G), .int 0])) := by rw [ew7, va_up_ne _ _ (wnf hw6_q5 hnq31)]; exact hw6_q5
  have hw7_x : w7 x = some (.inr (2, [.ref q5, .ref q18, .int 0, .null])) := by rw [ew7, va_up_ne _ _ (wnf hw6_x hnq31)]; exact hw6_x
  have hw7_q18 : w7 q18 = some (.inl (G.2.1.1, 16, .inl (fun _ => 0))) := by rw [ew7, va_up_ne _ _ (wnf hw6_q18 hnq31)]; exact hw6_q18
  have hw7_q31 : w7 q31 = some (.inl (G.2.1.2.1, 16, .inr (.inl (fun _ => 0)))) := by rw [ew7]; exact va_up_self _ _ _
  refine pf_B_24 C0 hH hS hw7_x rfl rfl (Nat.le_of_ble_eq_true rfl) d_B_init_33 (fun H locs hH hS => ?_)
  obtain ⟨w8, ew8⟩ : ∃ z : World, z = va_up w7 x (some (.inr (2, [.ref q5, .ref q18, .int 0, .ref q31]))) := ⟨_, rfl⟩
  have hH : Hw G w8 H := by rw [ew8]; exact hH
  have hw8_q5 : w8 q5 = some (.inr (0, [.int 0, .ref (ge0 G), .int 0])) := by rw [ew8, va_up_ne _ _ ((wnf hB hnq5).symm)]; exact hw7_q5
  have hw8_q18 : w8 q18 = some (.inl (G.2.1.1, 16, .inl (fun _ => 0))) := by rw [ew8, va_up_ne _ _ ((wnf hw3_x hnq18).symm)]; exact hw7_q18
  have hw8_q31 : w8 q31 = some (.inl (G.2.1.2.1, 16, .inr (.inl (fun _ => 0)))) := by rw [ew8, va_up_ne _ _ ((wnf hw6_x hnq31).symm)]; exact hw7_q31
  have hw8_x : w8 x = some (.inr (2, [.ref q5, .ref q18, .int 0, .ref q31])) := by rw [ew8]; exact va_up_self _ _ _
  have hf18 : w q18 = none := by have h := hnq18; rw [ew3] at h; have h := up_none h; rw [ew2] at h; have h := up_none h; rw [ew1] at h; exact up_none h
  have hf31 : w q31 = none := by have h := hnq31; rw [ew6] at h; have h := up_none h; rw [ew5] at h; have h := up_none h; rw [ew4] at h; have h := up_none h; rw [ew3] at h; have h := up_none h; rw [ew2] at h; have h := up_none h; rw [ew1] at h; exact up_none h
  refine W.widen (k := 3) (n := 35) (by omega) (by omega) ?_
  exact W.vret hx hb hr (fun t ht hW => ⟨⟨w8, rfl, ⟨q5, q18, q31, hnq5, hf18, hf31, wne hw8_q5 hw8_q18 (by simp), wne hw8_q5 hw8_q31 (by simp), wne hw8_q18 hw8_q31 (by simp), hw8_x, hw8_q5, hw8_q18, hw8_q31, by rw [ew8, ew7, ew6, ew5, ew4, ew3, ew2, ew1]; exact (((((((Kp.up (Or.inr hnq5)).ups (Or.inr hnq5)).ups (Or.inl (List.mem_cons_self ..))).ups (Or.inr hf18)).ups (Or.inl (List.mem_cons_self ..))).ups (Or.inl (List.mem_cons_self ..))).ups (Or.inr hf31)).ups (Or.inl (List.mem_cons_self ..))⟩, Wo.at C0.ev hH hS ht hW⟩, hS.F ht⟩) hS.2.2 d_B_init_36 (hlocks := C0.2.2.2.2.2.2)
