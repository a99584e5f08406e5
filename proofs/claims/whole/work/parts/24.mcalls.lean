/-! the model's small calls -/
abbrev GnL (l : Launch) (y : MethodName) (ws : List Cond) (k mc ms : Nat) (G : Gl) (w : World) (as : List Value) (post : Int64 → World → Prop) : Prop := Met l y ws (rmK k mc ms) (va_Pc as (Wo G w)) (va_Ql post (Wo G) (gA G)) mc ms (gA G)
theorem gn_l {p : Program} {l : Launch} {e : Env} {R : Room} {s : State} {m : MethodId} {args : Array Value} {below : List Frame} {meth : Method} {c : Code} {H : Heap} {locs : List Loc} {cells slots : Nat} {Q : State → Prop} {G : Gl} {pc mc ms : Nat} {ls : Array Slot} {rest st0 : List Value} {as0 : Array Value} {post : Int64 → World → Prop} (hr : va_Run p l e R s m args below meth c H locs cells slots mc ms (F0 m pc ls st0) rest (va_Ql post (Wo G) (gA G) as0) (gA G)) (hS : va_S (gA G) s.heap H locs)
    (kk : ∀ (r : Int64) (w' : World) (H1 : Heap) (locs1 : List Loc), post r w' → Hw G w' H1 → va_S (gA G) s.heap H1 locs1 → W p l e R s m args below meth c H1 locs1 (cells + mc) (slots + ms) Q (F0 m (pc + 3) ls (.long r :: rest))) : W p l e R s m args below meth c H locs cells slots Q (F0 m pc ls st0) :=
  va_calll hr hS (fun _ _ h => h) (fun _ h => h) (fun r u t H1 locs1 ht _ hp hB _ _ hS1 => kk r u H1 locs1 hp (by rw [← ht]; exact hB.2) hS1)
/-- the model behind a call -/
def MDo (G : Gl) (w w1 : World) (y aT aX aY aU aV aR : Nat) (tc : Int32) (th lx ly ux uy : Nat → Int32) (sz : Nat) (rf : Nat → Int32) : Prop := MAt G w1 y aT aX aY aU aV aR tc th lx ly ux uy sz rf ∧ Kp w w1 [y, aT, aX, aY, aU, aV, aR]
theorem MAt.tc {G : Gl} {w w1 : World} {y aT aX aY aU aV aR sz : Nat} {tc c9 : Int32} {th lx ly ux uy rf : Nat → Int32} (h : MAt G w y aT aX aY aU aV aR tc th lx ly ux uy sz rf) (hA : w1 = va_up w y (some (.inr (3, [.int c9, .ref aT, .ref aX, .ref aY, .ref aU, .ref aV, .int (nI sz), .ref aR])))) : MAt G w1 y aT aX aY aU aV aR c9 th lx ly ux uy sz rf := by
  obtain ⟨hY, hT, hX, hYy, hU9, hV, hR, hDi⟩ := h
  have kp : ∀ {a : Nat} {z : ClassId × vp_A}, w a = some (.inl z) → w1 a = some (.inl z) := fun {a z} ha => by rw [hA, va_up_ne _ _ (wne ha hY (by simp))]; exact ha
  exact ⟨by rw [hA]; exact va_up_self _ _ _, kp hT, kp hX, kp hYy, kp hU9, kp hV, kp hR, hDi⟩
theorem nar01 {v : Int32} (h : v = 0 ∨ v = 1) : narrow .boolean (.int v) = .int v := by
  rcases h with h | h
  · rw [h]; rfl
  · rw [h]; rfl
theorem in4095 {n : Int32} : (0 ≤ n ∧ n ≤ 4095) ↔ okN n := by
  unfold okN
  simp only [Int32.le_iff_toInt_le, Int32.lt_iff_toInt_lt, tI4096, tI0, show (4095 : Int32).toInt = 4095 from rfl]
  omega
theorem okN_nI {b : Nat} (h : b < 4096) : okN (nI b) := ⟨show nI 0 ≤ nI b from nI_le (Nat.zero_le _) (by omega), show nI b < nI 4096 from nI_lt h (by omega)⟩

set_option maxHeartbeats 4000000 in
set_option maxRecDepth 100000 in
theorem k_M_fail (l : Launch) (G : Gl) (w : World) {y aT aX aY aU aV aR sz : Nat} {tc : Int32} (c9 : Int32) (hY : w y = some (.inr (3, [.int tc, .ref aT, .ref aX, .ref aY, .ref aU, .ref aV, .int (nI sz), .ref aR])))  :
    GnI l y_M_fail ws_M_fail 0 0 0 G w [.ref y, .int c9] (fun r w1 => r = 0 ∧ w1 = va_up w y (some (.inr (3, [.int c9, .ref aT, .ref aX, .ref aY, .ref aU, .ref aV, .int (nI sz), .ref aR])))) := by
  refine met_ent (by decide +kernel) (Nat.le_of_ble_eq_true rfl) (fun p e s m below meth c ls C0 hr hin hH hl => ?_)
  have hx := C0.1
  have hb := C0.2.1
  have hS : va_S (gA G) s.heap s.heap [] := va_S.rf
  have hA : ∀ q : Nat, s.heap.size ≤ q → gA G q := fun q h => Nat.le_trans C0.ev.2.2.2.2.2.2.2.2.2.2.2.2 h
  have hl : lv_has ls 2 [(0, .ref y), (1, .int c9)] := hl
  refine lv_aload_n hx hb d_M_fail_0 rfl (lv_at hl 0 rfl) ?_
  refine lv_iload_n hx hb d_M_fail_1 rfl (lv_at hl 1 rfl) ?_
  refine pf_M_29 C0 hH hS hY rfl rfl (Nat.le_of_ble_eq_true rfl) d_M_fail_2 (fun H locs hH hS => ?_)
  obtain ⟨w1, ew1⟩ : ∃ z : World, z = va_up w y (some (.inr (3, [.int c9, .ref aT, .ref aX, .ref aY, .ref aU, .ref aV, .int (nI sz), .ref aR]))) := ⟨_, rfl⟩
  have hH : Hw G w1 H := by rw [ew1]; exact hH
  have hw1_y : w1 y = some (.inr (3, [.int c9, .ref aT, .ref aX, .ref aY, .ref aU, .ref aV, .int (nI sz), .ref aR])) := by rw [ew1]; exact va_up_self _ _ _
  refine lv_iconst (v := 0) hx hb d_M_fail_5 (by decide) ?_
  refine W.widen (k := 0) (n := 0) (by omega) (by omega) ?_
  exact W.iret hx hb hr (fun t ht hW => ⟨⟨0, w1, rfl, ⟨rfl, ew1⟩, Wo.at C0.ev hH hS ht hW⟩, hS.F ht⟩) hS.2.2 d_M_fail_6 (hlocks := C0.2.2.2.2.2.2)

set_option maxHeartbeats 4000000 in
set_option maxRecDepth 100000 in
theorem k_M_thrown (l : Launch) (G : Gl) (w : World) {y aT aX aY aU aV aR sz : Nat} {tc : Int32} {th lx ly ux uy rf : Nat → Int32} (hM : MAt G w y aT aX aY aU aV aR tc th lx ly ux uy sz rf)  :
    PuM l y_M_thrown ws_M_thrown 0 G w [.ref y] (some (.int tc)) := by
  refine met_ent (by decide +kernel) (Nat.le_of_ble_eq_true rfl) (fun p e s m below meth c ls C0 hr hin hH hl => ?_)
  have hx := C0.1
  have hb := C0.2.1
  have hS : va_S (gA G) s.heap s.heap [] := va_S.rf
  have hA : ∀ q : Nat, s.heap.size ≤ q → gA G q := fun q h => Nat.le_trans C0.ev.2.2.2.2.2.2.2.2.2.2.2.2 h
  have hl : lv_has ls 1 [(0, .ref y)] := hl
  obtain ⟨hY, hT, hX, hYy, hU9, hV, hR, hDi⟩ := id hM
  refine lv_aload_n hx hb d_M_thrown_0 rfl (lv_at hl 0 rfl) ?_
  refine gf_M_29 C0 hH hY rfl d_M_thrown_1 ?_
  exact W.iret hx hb hr (fun t ht _ => ⟨rfl, ht⟩) (fun _ h => by cases h) d_M_thrown_4 (hlocks := C0.2.2.2.2.2.2)

set_option maxHeartbeats 4000000 in
set_option maxRecDepth 100000 in
theorem k_M_put (l : Launch) (G : Gl) (w : World) {y aT aX aY aU aV aR sz : Nat} {tc : Int32} {th lx ly ux uy rf : Nat → Int32} (hM : MAt G w y aT aX aY aU aV aR tc th lx ly ux uy sz rf) (hth : ∀ i : Nat, th i = 0 ∨ th i = 1) (b : Nat) (x1 y1 x2 y2 : Int32) (hb9 : b < 4096) (hB9 : okB x1 y1 x2 y2) :
    GnI l y_M_put ws_M_put 4 0 0 G w [.ref y, .int (nI b), .int x1, .int y1, .int x2, .int y2] (fun r w1 => r = th b ∧ MDo G w w1 y aT aX aY aU aV aR 0 (upd th b 1) (upd lx b x1) (upd ly b y1) (upd ux b x2) (upd uy b y2) sz rf) := by
  refine met_ent (by decide +kernel) (Nat.le_of_ble_eq_true rfl) (fun p e s m below meth c ls C0 hr hin hH hl => ?_)
  have hx := C0.1
  have hb := C0.2.1
  have hS : va_S (gA G) s.heap s.heap [] := va_S.rf
  have hA : ∀ q : Nat, s.heap.size ≤ q → gA G q := fun q h => Nat.le_trans C0.ev.2.2.2.2.2.2.2.2.2.2.2.2 h
  have hl : lv_has ls 7 [(0, .ref y), (1, .int (nI b)), (2, .int x1), (3, .int y1), (4, .int x2), (5, .int y2)] := hl
  obtain ⟨hY, hT, hX, hYy, hU9, hV, hR, hDi⟩ := id hM
  obtain ⟨n_TX, n_TY, n_TU, n_TV, n_TR, n_XY, n_XU, n_XV, n_XR, n_YU, n_YV, n_YR, n_UV, n_UR, n_VR⟩ := id hDi
  refine lv_aload_n hx hb d_M_put_0 rfl (lv_at hl 0 rfl) ?_
  refine lv_iconst (v := 0) hx hb d_M_put_1 (by decide) ?_
  refine pf_M_29 C0 hH hS hY rfl rfl (Nat.le_of_ble_eq_true rfl) d_M_put_2 (fun H locs hH hS => ?_)
  obtain ⟨w1, ew1⟩ : ∃ z : World, z = va_up w y (some (.inr (3, [.int 0, .ref aT, .ref aX, .ref aY, .ref aU, .ref aV, .int (nI sz), .ref aR]))) := ⟨_, rfl⟩
  have hH : Hw G w1 H := by rw [ew1]; exact hH
  have hw1_aT : w1 aT = some (.inl (G.2.1.2.2.1, 4096, .inl th)) := by rw [ew1, va_up_ne _ _ (wne hT hY (by simp))]; exact hT
  have hw1_aX : w1 aX = some (.inl (G.2.1.1, 4096, .inl lx)) := by rw [ew1, va_up_ne _ _ (wne hX hY (by simp))]; exact hX
  have hw1_aY : w1 aY = some (.inl (G.2.1.1, 4096, .inl ly)) := by rw [ew1, va_up_ne _ _ (wne hYy hY (by simp))]; exact hYy
  have hw1_aU : w1 aU = some (.inl (G.2.1.1, 4096, .inl ux)) := by rw [ew1, va_up_ne _ _ (wne hU9 hY (by simp))]; exact hU9
  have hw1_aV : w1 aV = some (.inl (G.2.1.1, 4096, .inl uy)) := by rw [ew1, va_up_ne _ _ (wne hV hY (by simp))]; exact hV
  have hw1_aR : w1 aR = some (.inl (G.2.1.1, 4096, .inl rf)) := by rw [ew1, va_up_ne _ _ (wne hR hY (by simp))]; exact hR
  have hw1_y : w1 y = some (.inr (3, [.int 0, .ref aT, .ref aX, .ref aY, .ref aU, .ref aV, .int (nI sz), .ref aR])) := by rw [ew1]; exact va_up_self _ _ _
  refine lv_iload_n hx hb d_M_put_5 rfl (lv_at hl 1 rfl) ?_
  refine lv_iconst (v := 0) hx hb d_M_put_6 (by decide) ?_
  refine lv_sipush (v := 4095) hx hb d_M_put_7 (by decide) ?_
  refine pu_v (runS C0 (k_M_within l G w1 (nI b) 0 4095) (cs_M_35 C0 ⟨Nat.le_of_ble_eq_true rfl, Nat.le_of_ble_eq_true rfl⟩) hH hS rfl hl.1 rfl (lv_room (Nat.le_of_ble_eq_true rfl)) d_M_put_10 ⟨by show _ ≤ 0; omega, by show _ ≤ 0; omega⟩) ?_
  refine lv_if_ne (tgt := 30) hx hb d_M_put_13 (by decide) (fun c_13 => ?_) (fun c_13 => ?_)
  · refine lv_iload_n hx hb d_M_put_30 rfl (lv_at hl 2 rfl) ?_
    refine lv_iload_n hx hb d_M_put_31 rfl (lv_at hl 3 rfl) ?_
    refine lv_iload hx hb d_M_put_32 (lv_at hl 4 rfl) ?_
    refine lv_iload hx hb d_M_put_34 (lv_at hl 5 rfl) ?_
    refine pu_v (runS C0 (k_M_areBounds l G w1 x1 y1 x2 y2) (cs_M_47 C0 ⟨Nat.le_of_ble_eq_true rfl, Nat.le_of_ble_eq_true rfl⟩) hH hS rfl hl.1 rfl (lv_room (Nat.le_of_ble_eq_true rfl)) d_M_put_36 ⟨by show _ ≤ 0; omega, by show _ ≤ 0; omega⟩) ?_
    refine lv_if_ne (tgt := 56) hx hb d_M_put_39 (by decide) (fun c_39 => ?_) (fun c_39 => ?_)
    · refine lv_aload_n hx hb d_M_put_56 rfl (lv_at hl 0 rfl) ?_
      refine gf_M_7 C0 hH hw1_y rfl d_M_put_57 ?_
      refine lv_iload_n hx hb d_M_put_60 rfl (lv_at hl 1 rfl) ?_
      refine hd_zald hx hb C0.hK hH 2 hw1_aT rfl (vp_in_nI (by omega) (by omega)) d_M_put_61 ?_
      rw [nI_clamp (by omega)]
      refine lv_istore (lv' := [(6, .int (th b)), (0, .ref y), (1, .int (nI b)), (2, .int x1), (3, .int y1), (4, .int x2), (5, .int y2)]) hx hb d_M_put_62 hl (by decide) rfl (fun ls hl => ?_)
      refine lv_aload_n hx hb d_M_put_64 rfl (lv_at hl 1 rfl) ?_
      refine gf_M_7 C0 hH hw1_y rfl d_M_put_65 ?_
      refine lv_iload_n hx hb d_M_put_68 rfl (lv_at hl 2 rfl) ?_
      refine lv_iconst (v := 1) hx hb d_M_put_69 (by decide) ?_
      refine hd_zast hx hb C0.hK hH hS 2 hw1_aT rfl (vp_in_nI (by omega) (by omega)) rfl d_M_put_70 (fun H locs hH hS => ?_)
      rw [nI_clamp (by omega)] at hH
      obtain ⟨w2, ew2⟩ : ∃ z : World, z = va_up w1 aT (some (.inl (G.2.1.2.2.1, 4096, .inl (upd th b 1)))) := ⟨_, rfl⟩
      have hH : Hw G w2 H := by rw [ew2]; exact hH
      have hw2_y : w2 y = some (.inr (3, [.int 0, .ref aT, .ref aX, .ref aY, .ref aU, .ref aV, .int (nI sz), .ref aR])) := by rw [ew2, va_up_ne _ _ (wne hw1_y hw1_aT (by simp))]; exact hw1_y
      have hw2_aX : w2 aX = some (.inl (G.2.1.1, 4096, .inl lx)) := by rw [ew2, va_up_ne _ _ (n_TX.symm)]; exact hw1_aX
      have hw2_aY : w2 aY = some (.inl (G.2.1.1, 4096, .inl ly)) := by rw [ew2, va_up_ne _ _ (n_TY.symm)]; exact hw1_aY
      have hw2_aU : w2 aU = some (.inl (G.2.1.1, 4096, .inl ux)) := by rw [ew2, va_up_ne _ _ (n_TU.symm)]; exact hw1_aU
      have hw2_aV : w2 aV = some (.inl (G.2.1.1, 4096, .inl uy)) := by rw [ew2, va_up_ne _ _ (n_TV.symm)]; exact hw1_aV
      have hw2_aR : w2 aR = some (.inl (G.2.1.1, 4096, .inl rf)) := by rw [ew2, va_up_ne _ _ (n_TR.symm)]; exact hw1_aR
      have hw2_aT : w2 aT = some (.inl (G.2.1.2.2.1, 4096, .inl (upd th b 1))) := by rw [ew2]; exact va_up_self _ _ _
      refine lv_aload_n hx hb d_M_put_71 rfl (lv_at hl 1 rfl) ?_
      refine gf_M_13 C0 hH hw2_y rfl d_M_put_72 ?_
      refine lv_iload_n hx hb d_M_put_75 rfl (lv_at hl 2 rfl) ?_
      refine lv_iload_n hx hb d_M_put_76 rfl (lv_at hl 3 rfl) ?_
      refine hd_iast hx hb C0.hK hH hS 0 hw2_aX rfl (vp_in_nI (by omega) (by omega)) d_M_put_77 (fun H locs hH hS => ?_)
      rw [nI_clamp (by omega)] at hH
      obtain ⟨w3, ew3⟩ : ∃ z : World, z = va_up w2 aX (some (.inl (G.2.1.1, 4096, .inl (upd lx b x1)))) := ⟨_, rfl⟩
      have hH : Hw G w3 H := by rw [ew3]; exact hH
      have hw3_y : w3 y = some (.inr (3, [.int 0, .ref aT, .ref aX, .ref aY, .ref aU, .ref aV, .int (nI sz), .ref aR])) := by rw [ew3, va_up_ne _ _ (wne hw2_y hw2_aX (by simp))]; exact hw2_y
      have hw3_aY : w3 aY = some (.inl (G.2.1.1, 4096, .inl ly)) := by rw [ew3, va_up_ne _ _ (n_XY.symm)]; exact hw2_aY
      have hw3_aU : w3 aU = some (.inl (G.2.1.1, 4096, .inl ux)) := by rw [ew3, va_up_ne _ _ (n_XU.symm)]; exact hw2_aU
      have hw3_aV : w3 aV = some (.inl (G.2.1.1, 4096, .inl uy)) := by rw [ew3, va_up_ne _ _ (n_XV.symm)]; exact hw2_aV
      have hw3_aR : w3 aR = some (.inl (G.2.1.1, 4096, .inl rf)) := by rw [ew3, va_up_ne _ _ (n_XR.symm)]; exact hw2_aR
      have hw3_aT : w3 aT = some (.inl (G.2.1.2.2.1, 4096, .inl (upd th b 1))) := by rw [ew3, va_up_ne _ _ (n_TX)]; exact hw2_aT
      have hw3_aX : w3 aX = some (.inl (G.2.1.1, 4096, .inl (upd lx b x1))) := by rw [ew3]; exact va_up_self _ _ _
      refine lv_aload_n hx hb d_M_put_78 rfl (lv_at hl 1 rfl) ?_
      refine gf_M_17 C0 hH hw3_y rfl d_M_put_79 ?_
      refine lv_iload_n hx hb d_M_put_82 rfl (lv_at hl 2 rfl) ?_
      refine lv_iload_n hx hb d_M_put_83 rfl (lv_at hl 4 rfl) ?_
      refine hd_iast hx hb C0.hK hH hS 0 hw3_aY rfl (vp_in_nI (by omega) (by omega)) d_M_put_84 (fun H locs hH hS => ?_)
      rw [nI_clamp (by omega)] at hH
      obtain ⟨w4, ew4⟩ : ∃ z : World, z = va_up w3 aY (some (.inl (G.2.1.1, 4096, .inl (upd ly b y1)))) := ⟨_, rfl⟩
      have hH : Hw G w4 H := by rw [ew4]; exact hH
      have hw4_y : w4 y = some (.inr (3, [.int 0, .ref aT, .ref aX, .ref aY, .ref aU, .ref aV, .int (nI sz), .ref aR])) := by rw [ew4, va_up_ne _ _ (wne hw3_y hw3_aY (by simp))]; exact hw3_y
      have hw4_aU : w4 aU = some (.inl (G.2.1.1, 4096, .inl ux)) := by rw [ew4, va_up_ne _ _ (n_YU.symm)]; exact hw3_aU
      have hw4_aV : w4 aV = some (.inl (G.2.1.1, 4096, .inl uy)) := by rw [ew4, va_up_ne _ _ (n_YV.symm)]; exact hw3_aV
      have hw4_aR : w4 aR = some (.inl (G.2.1.1, 4096, .inl rf)) := by rw [ew4, va_up_ne _ _ (n_YR.symm)]; exact hw3_aR
      have hw4_aT : w4 aT = some (.inl (G.2.1.2.2.1, 4096, .inl (upd th b 1))) := by rw [ew4, va_up_ne _ _ (n_TY)]; exact hw3_aT
      have hw4_aX : w4 aX = some (.inl (G.2.1.1, 4096, .inl (upd lx b x1))) := by rw [ew4, va_up_ne _ _ (n_XY)]; exact hw3_aX
      have hw4_aY : w4 aY = some (.inl (G.2.1.1, 4096, .inl (upd ly b y1))) := by rw [ew4]; exact va_up_self _ _ _
      refine lv_aload_n hx hb d_M_put_85 rfl (lv_at hl 1 rfl) ?_
      refine gf_M_20 C0 hH hw4_y rfl d_M_put_86 ?_
      refine lv_iload_n hx hb d_M_put_89 rfl (lv_at hl 2 rfl) ?_
      refine lv_iload hx hb d_M_put_90 (lv_at hl 5 rfl) ?_
      refine hd_iast hx hb C0.hK hH hS 0 hw4_aU rfl (vp_in_nI (by omega) (by omega)) d_M_put_92 (fun H locs hH hS => ?_)
      rw [nI_clamp (by omega)] at hH
      obtain ⟨w5, ew5⟩ : ∃ z : World, z = va_up w4 aU (some (.inl (G.2.1.1, 4096, .inl (upd ux b x2)))) := ⟨_, rfl⟩
      have hH : Hw G w5 H := by rw [ew5]; exact hH
      have hw5_y : w5 y = some (.inr (3, [.int 0, .ref aT, .ref aX, .ref aY, .ref aU, .ref aV, .int (nI sz), .ref aR])) := by rw [ew5, va_up_ne _ _ (wne hw4_y hw4_aU (by simp))]; exact hw4_y
      have hw5_aV : w5 aV = some (.inl (G.2.1.1, 4096, .inl uy)) := by rw [ew5, va_up_ne _ _ (n_UV.symm)]; exact hw4_aV
      have hw5_aR : w5 aR = some (.inl (G.2.1.1, 4096, .inl rf)) := by rw [ew5, va_up_ne _ _ (n_UR.symm)]; exact hw4_aR
      have hw5_aT : w5 aT = some (.inl (G.2.1.2.2.1, 4096, .inl (upd th b 1))) := by rw [ew5, va_up_ne _ _ (n_TU)]; exact hw4_aT
      have hw5_aX : w5 aX = some (.inl (G.2.1.1, 4096, .inl (upd lx b x1))) := by rw [ew5, va_up_ne _ _ (n_XU)]; exact hw4_aX
      have hw5_aY : w5 aY = some (.inl (G.2.1.1, 4096, .inl (upd ly b y1))) := by rw [ew5, va_up_ne _ _ (n_YU)]; exact hw4_aY
      have hw5_aU : w5 aU = some (.inl (G.2.1.1, 4096, .inl (upd ux b x2))) := by rw [ew5]; exact va_up_self _ _ _
      refine lv_aload_n hx hb d_M_put_93 rfl (lv_at hl 1 rfl) ?_
      refine gf_M_23 C0 hH hw5_y rfl d_M_put_94 ?_
      refine lv_iload_n hx hb d_M_put_97 rfl (lv_at hl 2 rfl) ?_
      refine lv_iload hx hb d_M_put_98 (lv_at hl 6 rfl) ?_
      refine hd_iast hx hb C0.hK hH hS 0 hw5_aV rfl (vp_in_nI (by omega) (by omega)) d_M_put_100 (fun H locs hH hS => ?_)
      rw [nI_clamp (by omega)] at hH
      obtain ⟨w6, ew6⟩ : ∃ z : World, z = va_up w5 aV (some (.inl (G.2.1.1, 4096, .inl (upd uy b y2)))) := ⟨_, rfl⟩
      have hH : Hw G w6 H := by rw [ew6]; exact hH
      have hw6_y : w6 y = some (.inr (3, [.int 0, .ref aT, .ref aX, .ref aY, .ref aU, .ref aV, .int (nI sz), .ref aR])) := by rw [ew6, va_up_ne _ _ (wne hw5_y hw5_aV (by simp))]; exact hw5_y
      have hw6_aR : w6 aR = some (.inl (G.2.1.1, 4096, .inl rf)) := by rw [ew6, va_up_ne _ _ (n_VR.symm)]; exact hw5_aR
      have hw6_aT : w6 aT = some (.inl (G.2.1.2.2.1, 4096, .inl (upd th b 1))) := by rw [ew6, va_up_ne _ _ (n_TV)]; exact hw5_aT
      have hw6_aX : w6 aX = some (.inl (G.2.1.1, 4096, .inl (upd lx b x1))) := by rw [ew6, va_up_ne _ _ (n_XV)]; exact hw5_aX
      have hw6_aY : w6 aY = some (.inl (G.2.1.1, 4096, .inl (upd ly b y1))) := by rw [ew6, va_up_ne _ _ (n_YV)]; exact hw5_aY
      have hw6_aU : w6 aU = some (.inl (G.2.1.1, 4096, .inl (upd ux b x2))) := by rw [ew6, va_up_ne _ _ (n_UV)]; exact hw5_aU
      have hw6_aV : w6 aV = some (.inl (G.2.1.1, 4096, .inl (upd uy b y2))) := by rw [ew6]; exact va_up_self _ _ _
      refine lv_iload hx hb d_M_put_101 (lv_at hl 0 rfl) ?_
      refine W.widen (k := 0) (n := 0) (by omega) (by omega) ?_
      exact W.zret hx hb hr (nar01 (hth b)) (fun t ht hW => ⟨⟨(th b), w6, rfl, ⟨rfl, ⟨⟨hw6_y, hw6_aT, hw6_aX, hw6_aY, hw6_aU, hw6_aV, hw6_aR, hDi⟩, by rw [ew6, ew5, ew4, ew3, ew2, ew1]; exact (((((Kp.up (Or.inl (by simp))).ups (Or.inl (by simp))).ups (Or.inl (by simp))).ups (Or.inl (by simp))).ups (Or.inl (by simp))).ups (Or.inl (by simp))⟩⟩, Wo.at C0.ev hH hS ht hW⟩, hS.F ht⟩) hS.2.2 d_M_put_103 (hlocks := C0.2.2.2.2.2.2)
    · exact absurd ((b01_t hB9).symm.trans c_39) (by decide)
  · exact absurd ((b01_t (in4095.mpr (okN_nI hb9))).symm.trans c_13) (by decide)

set_option maxHeartbeats 4000000 in
set_option maxRecDepth 100000 in
theorem k_M_put1 (l : Launch) (G : Gl) (w : World) {y aT aX aY aU aV aR sz : Nat} {tc : Int32} {th lx ly ux uy rf : Nat → Int32} (hM : MAt G w y aT aX aY aU aV aR tc th lx ly ux uy sz rf) (n x1 y1 x2 y2 : Int32) (hn9 : ¬ okN n) :
    GnI l y_M_put ws_M_put 4 0 0 G w [.ref y, .int n, .int x1, .int y1, .int x2, .int y2] (fun r w1 => r = 0 ∧ MDo G w w1 y aT aX aY aU aV aR 1 th lx ly ux uy sz rf) := by
  refine met_ent (by decide +kernel) (Nat.le_of_ble_eq_true rfl) (fun p e s m below meth c ls C0 hr hin hH hl => ?_)
  have hx := C0.1
  have hb := C0.2.1
  have hS : va_S (gA G) s.heap s.heap [] := va_S.rf
  have hA : ∀ q : Nat, s.heap.size ≤ q → gA G q := fun q h => Nat.le_trans C0.ev.2.2.2.2.2.2.2.2.2.2.2.2 h
  have hl : lv_has ls 7 [(0, .ref y), (1, .int n), (2, .int x1), (3, .int y1), (4, .int x2), (5, .int y2)] := hl
  obtain ⟨hY, hT, hX, hYy, hU9, hV, hR, hDi⟩ := id hM
  obtain ⟨n_TX, n_TY, n_TU, n_TV, n_TR, n_XY, n_XU, n_XV, n_XR, n_YU, n_YV, n_YR, n_UV, n_UR, n_VR⟩ := id hDi
  refine lv_aload_n hx hb d_M_put_0 rfl (lv_at hl 0 rfl) ?_
  refine lv_iconst (v := 0) hx hb d_M_put_1 (by decide) ?_
  refine pf_M_29 C0 hH hS hY rfl rfl (Nat.le_of_ble_eq_true rfl) d_M_put_2 (fun H locs hH hS => ?_)
  obtain ⟨w1, ew1⟩ : ∃ z : World, z = va_up w y (some (.inr (3, [.int 0, .ref aT, .ref aX, .ref aY, .ref aU, .ref aV, .int (nI sz), .ref aR]))) := ⟨_, rfl⟩
  have hH : Hw G w1 H := by rw [ew1]; exact hH
  have hw1_aT : w1 aT = some (.inl (G.2.1.2.2.1, 4096, .inl th)) := by rw [ew1, va_up_ne _ _ (wne hT hY (by simp))]; exact hT
  have hw1_aX : w1 aX = some (.inl (G.2.1.1, 4096, .inl lx)) := by rw [ew1, va_up_ne _ _ (wne hX hY (by simp))]; exact hX
  have hw1_aY : w1 aY = some (.inl (G.2.1.1, 4096, .inl ly)) := by rw [ew1, va_up_ne _ _ (wne hYy hY (by simp))]; exact hYy
  have hw1_aU : w1 aU = some (.inl (G.2.1.1, 4096, .inl ux)) := by rw [ew1, va_up_ne _ _ (wne hU9 hY (by simp))]; exact hU9
  have hw1_aV : w1 aV = some (.inl (G.2.1.1, 4096, .inl uy)) := by rw [ew1, va_up_ne _ _ (wne hV hY (by simp))]; exact hV
  have hw1_aR : w1 aR = some (.inl (G.2.1.1, 4096, .inl rf)) := by rw [ew1, va_up_ne _ _ (wne hR hY (by simp))]; exact hR
  have hw1_y : w1 y = some (.inr (3, [.int 0, .ref aT, .ref aX, .ref aY, .ref aU, .ref aV, .int (nI sz), .ref aR])) := by rw [ew1]; exact va_up_self _ _ _
  refine lv_iload_n hx hb d_M_put_5 rfl (lv_at hl 1 rfl) ?_
  refine lv_iconst (v := 0) hx hb d_M_put_6 (by decide) ?_
  refine lv_sipush (v := 4095) hx hb d_M_put_7 (by decide) ?_
  refine pu_v (runS C0 (k_M_within l G w1 n 0 4095) (cs_M_35 C0 ⟨Nat.le_of_ble_eq_true rfl, Nat.le_of_ble_eq_true rfl⟩) hH hS rfl hl.1 rfl (lv_room (Nat.le_of_ble_eq_true rfl)) d_M_put_10 ⟨by show _ ≤ 0; omega, by show _ ≤ 0; omega⟩) ?_
  refine lv_if_ne (tgt := 30) hx hb d_M_put_13 (by decide) (fun c_13 => ?_) (fun c_13 => ?_)
  · exact absurd (b01_f (fun h => hn9 (in4095.mp h))) c_13
  · refine lv_aload_n hx hb d_M_put_16 rfl (lv_at hl 0 rfl) ?_
    refine lv_iconst (v := 1) hx hb d_M_put_17 (by decide) ?_
    refine gn_i (runV C0 (k_M_fail l G w1 1 hw1_y) (cs_M_43 C0 ⟨Nat.le_of_ble_eq_true rfl, Nat.le_of_ble_eq_true rfl⟩) hH hS (hd_recv C0.hK hH rfl hw1_y) rfl hl.1 rfl (lv_room (Nat.le_of_ble_eq_true rfl)) d_M_put_18 ⟨by show _ ≤ 0; omega, by show _ ≤ 0; omega⟩) hS (fun r2 w2 H locs hp2 hH hS => ?_)
    obtain ⟨rfl, ew2⟩ := hp2
    have hF9 := (show MAt G w1 y aT aX aY aU aV aR 0 th lx ly ux uy sz rf from ⟨hw1_y, hw1_aT, hw1_aX, hw1_aY, hw1_aU, hw1_aV, hw1_aR, hDi⟩).tc ew2
    have hK9 : Kp w w2 [y, aT, aX, aY, aU, aV, aR] := by rw [ew2, ew1]; exact (Kp.up (Or.inl (by simp))).ups (Or.inl (by simp))
    refine lv_if_le (tgt := 28) hx hb d_M_put_21 (by decide) (fun c_21 => ?_) (fun c_21 => ?_)
    · refine lv_iconst (v := 0) hx hb d_M_put_28 (by decide) ?_
      refine W.widen (k := 0) (n := 0) (by omega) (by omega) ?_
      exact W.zret hx hb hr rfl (fun t ht hW => ⟨⟨0, w2, rfl, ⟨rfl, hF9, hK9⟩, Wo.at C0.ev hH hS ht hW⟩, hS.F ht⟩) hS.2.2 d_M_put_29 (hlocks := C0.2.2.2.2.2.2)
    · exact absurd (by decide) c_21

set_option maxHeartbeats 4000000 in
set_option maxRecDepth 100000 in
theorem k_M_put2 (l : Launch) (G : Gl) (w : World) {y aT aX aY aU aV aR sz : Nat} {tc : Int32} {th lx ly ux uy rf : Nat → Int32} (hM : MAt G w y aT aX aY aU aV aR tc th lx ly ux uy sz rf) (b : Nat) (x1 y1 x2 y2 : Int32) (hb9 : b < 4096) (hB9 : ¬ okB x1 y1 x2 y2) :
    GnI l y_M_put ws_M_put 4 0 0 G w [.ref y, .int (nI b), .int x1, .int y1, .int x2, .int y2] (fun r w1 => r = 0 ∧ MDo G w w1 y aT aX aY aU aV aR 2 th lx ly ux uy sz rf) := by
  refine met_ent (by decide +kernel) (Nat.le_of_ble_eq_true rfl) (fun p e s m below meth c ls C0 hr hin hH hl => ?_)
  have hx := C0.1
  have hb := C0.2.1
  have hS : va_S (gA G) s.heap s.heap [] := va_S.rf
  have hA : ∀ q : Nat, s.heap.size ≤ q → gA G q := fun q h => Nat.le_trans C0.ev.2.2.2.2.2.2.2.2.2.2.2.2 h
  have hl : lv_has ls 7 [(0, .ref y), (1, .int (nI b)), (2, .int x1), (3, .int y1), (4, .int x2), (5, .int y2)] := hl
  obtain ⟨hY, hT, hX, hYy, hU9, hV, hR, hDi⟩ := id hM
  obtain ⟨n_TX, n_TY, n_TU, n_TV, n_TR, n_XY, n_XU, n_XV, n_XR, n_YU, n_YV, n_YR, n_UV, n_UR, n_VR⟩ := id hDi
  refine lv_aload_n hx hb d_M_put_0 rfl (lv_at hl 0 rfl) ?_
  refine lv_iconst (v := 0) hx hb d_M_put_1 (by decide) ?_
  refine pf_M_29 C0 hH hS hY rfl rfl (Nat.le_of_ble_eq_true rfl) d_M_put_2 (fun H locs hH hS => ?_)
  obtain ⟨w1, ew1⟩ : ∃ z : World, z = va_up w y (some (.inr (3, [.int 0, .ref aT, .ref aX, .ref aY, .ref aU, .ref aV, .int (nI sz), .ref aR]))) := ⟨_, rfl⟩
  have hH : Hw G w1 H := by rw [ew1]; exact hH
  have hw1_aT : w1 aT = some (.inl (G.2.1.2.2.1, 4096, .inl th)) := by rw [ew1, va_up_ne _ _ (wne hT hY (by simp))]; exact hT
  have hw1_aX : w1 aX = some (.inl (G.2.1.1, 4096, .inl lx)) := by rw [ew1, va_up_ne _ _ (wne hX hY (by simp))]; exact hX
  have hw1_aY : w1 aY = some (.inl (G.2.1.1, 4096, .inl ly)) := by rw [ew1, va_up_ne _ _ (wne hYy hY (by simp))]; exact hYy
  have hw1_aU : w1 aU = some (.inl (G.2.1.1, 4096, .inl ux)) := by rw [ew1, va_up_ne _ _ (wne hU9 hY (by simp))]; exact hU9
  have hw1_aV : w1 aV = some (.inl (G.2.1.1, 4096, .inl uy)) := by rw [ew1, va_up_ne _ _ (wne hV hY (by simp))]; exact hV
  have hw1_aR : w1 aR = some (.inl (G.2.1.1, 4096, .inl rf)) := by rw [ew1, va_up_ne _ _ (wne hR hY (by simp))]; exact hR
  have hw1_y : w1 y = some (.inr (3, [.int 0, .ref aT, .ref aX, .ref aY, .ref aU, .ref aV, .int (nI sz), .ref aR])) := by rw [ew1]; exact va_up_self _ _ _
  refine lv_iload_n hx hb d_M_put_5 rfl (lv_at hl 1 rfl) ?_
  refine lv_iconst (v := 0) hx hb d_M_put_6 (by decide) ?_
  refine lv_sipush (v := 4095) hx hb d_M_put_7 (by decide) ?_
  refine pu_v (runS C0 (k_M_within l G w1 (nI b) 0 4095) (cs_M_35 C0 ⟨Nat.le_of_ble_eq_true rfl, Nat.le_of_ble_eq_true rfl⟩) hH hS rfl hl.1 rfl (lv_room (Nat.le_of_ble_eq_true rfl)) d_M_put_10 ⟨by show _ ≤ 0; omega, by show _ ≤ 0; omega⟩) ?_
  refine lv_if_ne (tgt := 30) hx hb d_M_put_13 (by decide) (fun c_13 => ?_) (fun c_13 => ?_)
  · refine lv_iload_n hx hb d_M_put_30 rfl (lv_at hl 2 rfl) ?_
    refine lv_iload_n hx hb d_M_put_31 rfl (lv_at hl 3 rfl) ?_
    refine lv_iload hx hb d_M_put_32 (lv_at hl 4 rfl) ?_
    refine lv_iload hx hb d_M_put_34 (lv_at hl 5 rfl) ?_
    refine pu_v (runS C0 (k_M_areBounds l G w1 x1 y1 x2 y2) (cs_M_47 C0 ⟨Nat.le_of_ble_eq_true rfl, Nat.le_of_ble_eq_true rfl⟩) hH hS rfl hl.1 rfl (lv_room (Nat.le_of_ble_eq_true rfl)) d_M_put_36 ⟨by show _ ≤ 0; omega, by show _ ≤ 0; omega⟩) ?_
    refine lv_if_ne (tgt := 56) hx hb d_M_put_39 (by decide) (fun c_39 => ?_) (fun c_39 => ?_)
    · exact absurd (b01_f hB9) c_39
    · refine lv_aload_n hx hb d_M_put_42 rfl (lv_at hl 0 rfl) ?_
      refine lv_iconst (v := 2) hx hb d_M_put_43 (by decide) ?_
      refine gn_i (runV C0 (k_M_fail l G w1 2 hw1_y) (cs_M_43 C0 ⟨Nat.le_of_ble_eq_true rfl, Nat.le_of_ble_eq_true rfl⟩) hH hS (hd_recv C0.hK hH rfl hw1_y) rfl hl.1 rfl (lv_room (Nat.le_of_ble_eq_true rfl)) d_M_put_44 ⟨by show _ ≤ 0; omega, by show _ ≤ 0; omega⟩) hS (fun r2 w2 H locs hp2 hH hS => ?_)
      obtain ⟨rfl, ew2⟩ := hp2
      have hF9 := (show MAt G w1 y aT aX aY aU aV aR 0 th lx ly ux uy sz rf from ⟨hw1_y, hw1_aT, hw1_aX, hw1_aY, hw1_aU, hw1_aV, hw1_aR, hDi⟩).tc ew2
      have hK9 : Kp w w2 [y, aT, aX, aY, aU, aV, aR] := by rw [ew2, ew1]; exact (Kp.up (Or.inl (by simp))).ups (Or.inl (by simp))
      refine lv_if_le (tgt := 54) hx hb d_M_put_47 (by decide) (fun c_47 => ?_) (fun c_47 => ?_)
      · refine lv_iconst (v := 0) hx hb d_M_put_54 (by decide) ?_
        refine W.widen (k := 0) (n := 0) (by omega) (by omega) ?_
        exact W.zret hx hb hr rfl (fun t ht hW => ⟨⟨0, w2, rfl, ⟨rfl, hF9, hK9⟩, Wo.at C0.ev hH hS ht hW⟩, hS.F ht⟩) hS.2.2 d_M_put_55 (hlocks := C0.2.2.2.2.2.2)
      · exact absurd (by decide) c_47
  · exact absurd ((b01_t (in4095.mpr (okN_nI hb9))).symm.trans c_13) (by decide)

set_option maxHeartbeats 4000000 in
set_option maxRecDepth 100000 in
theorem k_M_take (l : Launch) (G : Gl) (w : World) {y aT aX aY aU aV aR sz : Nat} {tc : Int32} {th lx ly ux uy rf : Nat → Int32} (hM : MAt G w y aT aX aY aU aV aR tc th lx ly ux uy sz rf) (hth : ∀ i : Nat, th i = 0 ∨ th i = 1) (b : Nat) (hb9 : b < 4096) :
    GnI l y_M_take ws_M_take 4 0 0 G w [.ref y, .int (nI b)] (fun r w1 => r = th b ∧ MDo G w w1 y aT aX aY aU aV aR 0 (upd th b 0) lx ly ux uy sz rf) := by
  refine met_ent (by decide +kernel) (Nat.le_of_ble_eq_true rfl) (fun p e s m below meth c ls C0 hr hin hH hl => ?_)
  have hx := C0.1
  have hb := C0.2.1
  have hS : va_S (gA G) s.heap s.heap [] := va_S.rf
  have hA : ∀ q : Nat, s.heap.size ≤ q → gA G q := fun q h => Nat.le_trans C0.ev.2.2.2.2.2.2.2.2.2.2.2.2 h
  have hl : lv_has ls 3 [(0, .ref y), (1, .int (nI b))] := hl
  obtain ⟨hY, hT, hX, hYy, hU9, hV, hR, hDi⟩ := id hM
  obtain ⟨n_TX, n_TY, n_TU, n_TV, n_TR, n_XY, n_XU, n_XV, n_XR, n_YU, n_YV, n_YR, n_UV, n_UR, n_VR⟩ := id hDi
  refine lv_aload_n hx hb d_M_take_0 rfl (lv_at hl 0 rfl) ?_
  refine lv_iconst (v := 0) hx hb d_M_take_1 (by decide) ?_
  refine pf_M_29 C0 hH hS hY rfl rfl (Nat.le_of_ble_eq_true rfl) d_M_take_2 (fun H locs hH hS => ?_)
  obtain ⟨w1, ew1⟩ : ∃ z : World, z = va_up w y (some (.inr (3, [.int 0, .ref aT, .ref aX, .ref aY, .ref aU, .ref aV, .int (nI sz), .ref aR]))) := ⟨_, rfl⟩
  have hH : Hw G w1 H := by rw [ew1]; exact hH
  have hw1_aT : w1 aT = some (.inl (G.2.1.2.2.1, 4096, .inl th)) := by rw [ew1, va_up_ne _ _ (wne hT hY (by simp))]; exact hT
  have hw1_aX : w1 aX = some (.inl (G.2.1.1, 4096, .inl lx)) := by rw [ew1, va_up_ne _ _ (wne hX hY (by simp))]; exact hX
  have hw1_aY : w1 aY = some (.inl (G.2.1.1, 4096, .inl ly)) := by rw [ew1, va_up_ne _ _ (wne hYy hY (by simp))]; exact hYy
  have hw1_aU : w1 aU = some (.inl (G.2.1.1, 4096, .inl ux)) := by rw [ew1, va_up_ne _ _ (wne hU9 hY (by simp))]; exact hU9
  have hw1_aV : w1 aV = some (.inl (G.2.1.1, 4096, .inl uy)) := by rw [ew1, va_up_ne _ _ (wne hV hY (by simp))]; exact hV
  have hw1_aR : w1 aR = some (.inl (G.2.1.1, 4096, .inl rf)) := by rw [ew1, va_up_ne _ _ (wne hR hY (by simp))]; exact hR
  have hw1_y : w1 y = some (.inr (3, [.int 0, .ref aT, .ref aX, .ref aY, .ref aU, .ref aV, .int (nI sz), .ref aR])) := by rw [ew1]; exact va_up_self _ _ _
  refine lv_iload_n hx hb d_M_take_5 rfl (lv_at hl 1 rfl) ?_
  refine lv_iconst (v := 0) hx hb d_M_take_6 (by decide) ?_
  refine lv_sipush (v := 4095) hx hb d_M_take_7 (by decide) ?_
  refine pu_v (runS C0 (k_M_within l G w1 (nI b) 0 4095) (cs_M_35 C0 ⟨Nat.le_of_ble_eq_true rfl, Nat.le_of_ble_eq_true rfl⟩) hH hS rfl hl.1 rfl (lv_room (Nat.le_of_ble_eq_true rfl)) d_M_take_10 ⟨by show _ ≤ 0; omega, by show _ ≤ 0; omega⟩) ?_
  refine lv_if_ne (tgt := 30) hx hb d_M_take_13 (by decide) (fun c_13 => ?_) (fun c_13 => ?_)
  · refine lv_aload_n hx hb d_M_take_30 rfl (lv_at hl 0 rfl) ?_
    refine gf_M_7 C0 hH hw1_y rfl d_M_take_31 ?_
    refine lv_iload_n hx hb d_M_take_34 rfl (lv_at hl 1 rfl) ?_
    refine hd_zald hx hb C0.hK hH 2 hw1_aT rfl (vp_in_nI (by omega) (by omega)) d_M_take_35 ?_
    rw [nI_clamp (by omega)]
    refine lv_istore_n (lv' := [(2, .int (th b)), (0, .ref y), (1, .int (nI b))]) hx hb d_M_take_36 rfl hl (by decide) rfl (fun ls hl => ?_)
    refine lv_aload_n hx hb d_M_take_37 rfl (lv_at hl 1 rfl) ?_
    refine gf_M_7 C0 hH hw1_y rfl d_M_take_38 ?_
    refine lv_iload_n hx hb d_M_take_41 rfl (lv_at hl 2 rfl) ?_
    refine lv_iconst (v := 0) hx hb d_M_take_42 (by decide) ?_
    refine hd_zast hx hb C0.hK hH hS 2 hw1_aT rfl (vp_in_nI (by omega) (by omega)) rfl d_M_take_43 (fun H locs hH hS => ?_)
    rw [nI_clamp (by omega)] at hH
    obtain ⟨w2, ew2⟩ : ∃ z : World, z = va_up w1 aT (some (.inl (G.2.1.2.2.1, 4096, .inl (upd th b 0)))) := ⟨_, rfl⟩
    have hH : Hw G w2 H := by rw [ew2]; exact hH
    have hw2_y : w2 y = some (.inr (3, [.int 0, .ref aT, .ref aX, .ref aY, .ref aU, .ref aV, .int (nI sz), .ref aR])) := by rw [ew2, va_up_ne _ _ (wne hw1_y hw1_aT (by simp))]; exact hw1_y
    have hw2_aX : w2 aX = some (.inl (G.2.1.1, 4096, .inl lx)) := by rw [ew2, va_up_ne _ _ (n_TX.symm)]; exact hw1_aX
    have hw2_aY : w2 aY = some (.inl (G.2.1.1, 4096, .inl ly)) := by rw [ew2, va_up_ne _ _ (n_TY.symm)]; exact hw1_aY
    have hw2_aU : w2 aU = some (.inl (G.2.1.1, 4096, .inl ux)) := by rw [ew2, va_up_ne _ _ (n_TU.symm)]; exact hw1_aU
    have hw2_aV : w2 aV = some (.inl (G.2.1.1, 4096, .inl uy)) := by rw [ew2, va_up_ne _ _ (n_TV.symm)]; exact hw1_aV
    have hw2_aR : w2 aR = some (.inl (G.2.1.1, 4096, .inl rf)) := by rw [ew2, va_up_ne _ _ (n_TR.symm)]; exact hw1_aR
    have hw2_aT : w2 aT = some (.inl (G.2.1.2.2.1, 4096, .inl (upd th b 0))) := by rw [ew2]; exact va_up_self _ _ _
    refine lv_iload_n hx hb d_M_take_44 rfl (lv_at hl 0 rfl) ?_
    refine W.widen (k := 0) (n := 0) (by omega) (by omega) ?_
    exact W.zret hx hb hr (nar01 (hth b)) (fun t ht hW => ⟨⟨(th b), w2, rfl, ⟨rfl, ⟨⟨hw2_y, hw2_aT, hw2_aX, hw2_aY, hw2_aU, hw2_aV, hw2_aR, hDi⟩, by rw [ew2, ew1]; exact (Kp.up (Or.inl (by simp))).ups (Or.inl (by simp))⟩⟩, Wo.at C0.ev hH hS ht hW⟩, hS.F ht⟩) hS.2.2 d_M_take_45 (hlocks := C0.2.2.2.2.2.2)
  · exact absurd ((b01_t (in4095.mpr (okN_nI hb9))).symm.trans c_13) (by decide)

set_option maxHeartbeats 4000000 in
set_option maxRecDepth 100000 in
theorem k_M_take1 (l : Launch) (G : Gl) (w : World) {y aT aX aY aU aV aR sz : Nat} {tc : Int32} {th lx ly ux uy rf : Nat → Int32} (hM : MAt G w y aT aX aY aU aV aR tc th lx ly ux uy sz rf) (n : Int32) (hn9 : ¬ okN n) :
    GnI l y_M_take ws_M_take 4 0 0 G w [.ref y, .int n] (fun r w1 => r = 0 ∧ MDo G w w1 y aT aX aY aU aV aR 1 th lx ly ux uy sz rf) := by
  refine met_ent (by decide +kernel) (Nat.le_of_ble_eq_true rfl) (fun p e s m below meth c ls C0 hr hin hH hl => ?_)
  have hx := C0.1
  have hb := C0.2.1
  have hS : va_S (gA G) s.heap s.heap [] := va_S.rf
  have hA : ∀ q : Nat, s.heap.size ≤ q → gA G q := fun q h => Nat.le_trans C0.ev.2.2.2.2.2.2.2.2.2.2.2.2 h
  have hl : lv_has ls 3 [(0, .ref y), (1, .int n)] := hl
  obtain ⟨hY, hT, hX, hYy, hU9, hV, hR, hDi⟩ := id hM
  obtain ⟨n_TX, n_TY, n_TU, n_TV, n_TR, n_XY, n_XU, n_XV, n_XR, n_YU, n_YV, n_YR, n_UV, n_UR, n_VR⟩ := id hDi
  refine lv_aload_n hx hb d_M_take_0 rfl (lv_at hl 0 rfl) ?_
  refine lv_iconst (v := 0) hx hb d_M_take_1 (by decide) ?_
  refine pf_M_29 C0 hH hS hY rfl rfl (Nat.le_of_ble_eq_true rfl) d_M_take_2 (fun H locs hH hS => ?_)
  obtain ⟨w1, ew1⟩ : ∃ z : World, z = va_up w y (some (.inr (3, [.int 0, .ref aT, .ref aX, .ref aY, .ref aU, .ref aV, .int (nI sz), .ref aR]))) := ⟨_, rfl⟩
  have hH : Hw G w1 H := by rw [ew1]; exact hH
  have hw1_aT : w1 aT = some (.inl (G.2.1.2.2.1, 4096, .inl th)) := by rw [ew1, va_up_ne _ _ (wne hT hY (by simp))]; exact hT
  have hw1_aX : w1 aX = some (.inl (G.2.1.1, 4096, .inl lx)) := by rw [ew1, va_up_ne _ _ (wne hX hY (by simp))]; exact hX
  have hw1_aY : w1 aY = some (.inl (G.2.1.1, 4096, .inl ly)) := by rw [ew1, va_up_ne _ _ (wne hYy hY (by simp))]; exact hYy
  have hw1_aU : w1 aU = some (.inl (G.2.1.1, 4096, .inl ux)) := by rw [ew1, va_up_ne _ _ (wne hU9 hY (by simp))]; exact hU9
  have hw1_aV : w1 aV = some (.inl (G.2.1.1, 4096, .inl uy)) := by rw [ew1, va_up_ne _ _ (wne hV hY (by simp))]; exact hV
  have hw1_aR : w1 aR = some (.inl (G.2.1.1, 4096, .inl rf)) := by rw [ew1, va_up_ne _ _ (wne hR hY (by simp))]; exact hR
  have hw1_y : w1 y = some (.inr (3, [.int 0, .ref aT, .ref aX, .ref aY, .ref aU, .ref aV, .int (nI sz), .ref aR])) := by rw [ew1]; exact va_up_self _ _ _
  refine lv_iload_n hx hb d_M_take_5 rfl (lv_at hl 1 rfl) ?_
  refine lv_iconst (v := 0) hx hb d_M_take_6 (by decide) ?_
  refine lv_sipush (v := 4095) hx hb d_M_take_7 (by decide) ?_
  refine pu_v (runS C0 (k_M_within l G w1 n 0 4095) (cs_M_35 C0 ⟨Nat.le_of_ble_eq_true rfl, Nat.le_of_ble_eq_true rfl⟩) hH hS rfl hl.1 rfl (lv_room (Nat.le_of_ble_eq_true rfl)) d_M_take_10 ⟨by show _ ≤ 0; omega, by show _ ≤ 0; omega⟩) ?_
  refine lv_if_ne (tgt := 30) hx hb d_M_take_13 (by decide) (fun c_13 => ?_) (fun c_13 => ?_)
  · exact absurd (b01_f (fun h => hn9 (in4095.mp h))) c_13
  · refine lv_aload_n hx hb d_M_take_16 rfl (lv_at hl 0 rfl) ?_
    refine lv_iconst (v := 1) hx hb d_M_take_17 (by decide) ?_
    refine gn_i (runV C0 (k_M_fail l G w1 1 hw1_y) (cs_M_43 C0 ⟨Nat.le_of_ble_eq_true rfl, Nat.le_of_ble_eq_true rfl⟩) hH hS (hd_recv C0.hK hH rfl hw1_y) rfl hl.1 rfl (lv_room (Nat.le_of_ble_eq_true rfl)) d_M_take_18 ⟨by show _ ≤ 0; omega, by show _ ≤ 0; omega⟩) hS (fun r2 w2 H locs hp2 hH hS => ?_)
    obtain ⟨rfl, ew2⟩ := hp2
    have hF9 := (show MAt G w1 y aT aX aY aU aV aR 0 th lx ly ux uy sz rf from ⟨hw1_y, hw1_aT, hw1_aX, hw1_aY, hw1_aU, hw1_aV, hw1_aR, hDi⟩).tc ew2
    have hK9 : Kp w w2 [y, aT, aX, aY, aU, aV, aR] := by rw [ew2, ew1]; exact (Kp.up (Or.inl (by simp))).ups (Or.inl (by simp))
    refine lv_if_le (tgt := 28) hx hb d_M_take_21 (by decide) (fun c_21 => ?_) (fun c_21 => ?_)
    · refine lv_iconst (v := 0) hx hb d_M_take_28 (by decide) ?_
      refine W.widen (k := 0) (n := 0) (by omega) (by omega) ?_
      exact W.zret hx hb hr rfl (fun t ht hW => ⟨⟨0, w2, rfl, ⟨rfl, hF9, hK9⟩, Wo.at C0.ev hH hS ht hW⟩, hS.F ht⟩) hS.2.2 d_M_take_29 (hlocks := C0.2.2.2.2.2.2)
    · exact absurd (by decide) c_21

theorem k_lt {k : Int32} {sz : Nat} (hs : sz ≤ 4096) (h : k ≤ nI sz - 1) (h0 : 0 ≤ k) : k < nI sz := by
  by_cases h1 : sz = 0
  · subst h1
    have h2 : k ≤ -1 := by rw [show nI 0 - 1 = (-1 : Int32) from by decide] at h; exact h
    have a := Int32.le_iff_toInt_le.mp h2
    have b := Int32.le_iff_toInt_le.mp h0
    rw [show (-1 : Int32).toInt = -1 from rfl] at a
    rw [tI0] at b
    omega
  · rw [show nI sz - 1 = nI (sz - 1) from pk_sub (show 1 ≤ sz by omega)] at h
    exact Int32.lt_iff_toInt_lt.mpr (Int.lt_of_le_of_lt (Int32.le_iff_toInt_le.mp h) (Int32.lt_iff_toInt_lt.mp (nI_lt (by omega) (by omega))))

set_option maxHeartbeats 4000000 in
set_option maxRecDepth 100000 in
theorem k_M_result (l : Launch) (G : Gl) (w : World) {y aT aX aY aU aV aR sz : Nat} {tc : Int32} {th lx ly ux uy rf : Nat → Int32} (hM : MAt G w y aT aX aY aU aV aR tc th lx ly ux uy sz rf) (i : Nat) (hi9 : i < sz) (hs9 : sz ≤ 4096) :
    GnI l y_M_result ws_M_result 4 0 0 G w [.ref y, .int (nI i)] (fun r w1 => r = rf i ∧ MDo G w w1 y aT aX aY aU aV aR 0 th lx ly ux uy sz rf) := by
  refine met_ent (by decide +kernel) (Nat.le_of_ble_eq_true rfl) (fun p e s m below meth c ls C0 hr hin hH hl => ?_)
  have hx := C0.1
  have hb := C0.2.1
  have hS : va_S (gA G) s.heap s.heap [] := va_S.rf
  have hA : ∀ q : Nat, s.heap.size ≤ q → gA G q := fun q h => Nat.le_trans C0.ev.2.2.2.2.2.2.2.2.2.2.2.2 h
  have hl : lv_has ls 2 [(0, .ref y), (1, .int (nI i))] := hl
  obtain ⟨hY, hT, hX, hYy, hU9, hV, hR, hDi⟩ := id hM
  obtain ⟨n_TX, n_TY, n_TU, n_TV, n_TR, n_XY, n_XU, n_XV, n_XR, n_YU, n_YV, n_YR, n_UV, n_UR, n_VR⟩ := id hDi
  refine lv_aload_n hx hb d_M_result_0 rfl (lv_at hl 0 rfl) ?_
  refine lv_iconst (v := 0) hx hb d_M_result_1 (by decide) ?_
  refine pf_M_29 C0 hH hS hY rfl rfl (Nat.le_of_ble_eq_true rfl) d_M_result_2 (fun H locs hH hS => ?_)
  obtain ⟨w1, ew1⟩ : ∃ z : World, z = va_up w y (some (.inr (3, [.int 0, .ref aT, .ref aX, .ref aY, .ref aU, .ref aV, .int (nI sz), .ref aR]))) := ⟨_, rfl⟩
  have hH : Hw G w1 H := by rw [ew1]; exact hH
  have hw1_aT : w1 aT = some (.inl (G.2.1.2.2.1, 4096, .inl th)) := by rw [ew1, va_up_ne _ _ (wne hT hY (by simp))]; exact hT
  have hw1_aX : w1 aX = some (.inl (G.2.1.1, 4096, .inl lx)) := by rw [ew1, va_up_ne _ _ (wne hX hY (by simp))]; exact hX
  have hw1_aY : w1 aY = some (.inl (G.2.1.1, 4096, .inl ly)) := by rw [ew1, va_up_ne _ _ (wne hYy hY (by simp))]; exact hYy
  have hw1_aU : w1 aU = some (.inl (G.2.1.1, 4096, .inl ux)) := by rw [ew1, va_up_ne _ _ (wne hU9 hY (by simp))]; exact hU9
  have hw1_aV : w1 aV = some (.inl (G.2.1.1, 4096, .inl uy)) := by rw [ew1, va_up_ne _ _ (wne hV hY (by simp))]; exact hV
  have hw1_aR : w1 aR = some (.inl (G.2.1.1, 4096, .inl rf)) := by rw [ew1, va_up_ne _ _ (wne hR hY (by simp))]; exact hR
  have hw1_y : w1 y = some (.inr (3, [.int 0, .ref aT, .ref aX, .ref aY, .ref aU, .ref aV, .int (nI sz), .ref aR])) := by rw [ew1]; exact va_up_self _ _ _
  refine lv_iload_n hx hb d_M_result_5 rfl (lv_at hl 1 rfl) ?_
  refine lv_iconst (v := 0) hx hb d_M_result_6 (by decide) ?_
  refine lv_aload_n hx hb d_M_result_7 rfl (lv_at hl 0 rfl) ?_
  refine gf_M_55 C0 hH hw1_y rfl d_M_result_8 ?_
  refine lv_iconst (v := 1) hx hb d_M_result_11 (by decide) ?_
  refine lv_isub hx hb d_M_result_12 ?_
  rw [show ((nI sz) - 1) = nI (sz - 1) from pk_sub (show 1 ≤ sz by omega)]
  refine pu_v (runS C0 (k_M_within l G w1 (nI i) 0 (nI (sz - 1))) (cs_M_35 C0 ⟨Nat.le_of_ble_eq_true rfl, Nat.le_of_ble_eq_true rfl⟩) hH hS rfl hl.1 rfl (lv_room (Nat.le_of_ble_eq_true rfl)) d_M_result_13 ⟨by show _ ≤ 0; omega, by show _ ≤ 0; omega⟩) ?_
  refine lv_if_eq (tgt := 28) hx hb d_M_result_16 (by decide) (fun c_16 => ?_) (fun c_16 => ?_)
  · exact absurd ((b01_t (show (0 : Int32) ≤ nI i ∧ nI i ≤ nI (sz - 1) from ⟨show nI 0 ≤ nI i from nI_le (Nat.zero_le _) (by omega), nI_le (by omega) (by omega)⟩)).symm.trans c_16) (by decide)
  · refine lv_aload_n hx hb d_M_result_19 rfl (lv_at hl 0 rfl) ?_
    refine gf_M_26 C0 hH hw1_y rfl d_M_result_20 ?_
    refine lv_iload_n hx hb d_M_result_23 rfl (lv_at hl 1 rfl) ?_
    refine hd_iald hx hb C0.hK hH 0 hw1_aR rfl (vp_in_nI (by omega) (by omega)) d_M_result_24 ?_
    rw [nI_clamp (by omega)]
    refine lv_goto (tgt := 33) hx hb d_M_result_25 (by decide) ?_
    refine W.widen (k := 0) (n := 0) (by omega) (by omega) ?_
    exact W.iret hx hb hr (fun t ht hW => ⟨⟨(rf i), w1, rfl, ⟨rfl, ⟨⟨hw1_y, hw1_aT, hw1_aX, hw1_aY, hw1_aU, hw1_aV, hw1_aR, hDi⟩, by rw [ew1]; exact Kp.up (Or.inl (by simp))⟩⟩, Wo.at C0.ev hH hS ht hW⟩, hS.F ht⟩) hS.2.2 d_M_result_33 (hlocks := C0.2.2.2.2.2.2)

set_option maxHeartbeats 4000000 in
set_option maxRecDepth 100000 in
theorem k_M_result1 (l : Launch) (G : Gl) (w : World) {y aT aX aY aU aV aR sz : Nat} {tc : Int32} {th lx ly ux uy rf : Nat → Int32} (hM : MAt G w y aT aX aY aU aV aR tc th lx ly ux uy sz rf) (k : Int32) (hk9 : ¬ (0 ≤ k ∧ k < nI sz)) (hs9 : sz ≤ 4096) :
    GnI l y_M_result ws_M_result 4 0 0 G w [.ref y, .int k] (fun r w1 => r = 0 ∧ MDo G w w1 y aT aX aY aU aV aR 1 th lx ly ux uy sz rf) := by
  refine met_ent (by decide +kernel) (Nat.le_of_ble_eq_true rfl) (fun p e s m below meth c ls C0 hr hin hH hl => ?_)
  have hx := C0.1
  have hb := C0.2.1
  have hS : va_S (gA G) s.heap s.heap [] := va_S.rf
  have hA : ∀ q : Nat, s.heap.size ≤ q → gA G q := fun q h => Nat.le_trans C0.ev.2.2.2.2.2.2.2.2.2.2.2.2 h
  have hl : lv_has ls 2 [(0, .ref y), (1, .int k)] := hl
  obtain ⟨hY, hT, hX, hYy, hU9, hV, hR, hDi⟩ := id hM
  obtain ⟨n_TX, n_TY, n_TU, n_TV, n_TR, n_XY, n_XU, n_XV, n_XR, n_YU, n_YV, n_YR, n_UV, n_UR, n_VR⟩ := id hDi
  refine lv_aload_n hx hb d_M_result_0 rfl (lv_at hl 0 rfl) ?_
  refine lv_iconst (v := 0) hx hb d_M_result_1 (by decide) ?_
  refine pf_M_29 C0 hH hS hY rfl rfl (Nat.le_of_ble_eq_true rfl) d_M_result_2 (fun H locs hH hS => ?_)
  obtain ⟨w1, ew1⟩ : ∃ z : World, z = va_up w y (some (.inr (3, [.int 0, .ref aT, .ref aX, .ref aY, .ref aU, .ref aV, .int (nI sz), .ref aR]))) := ⟨_, rfl⟩
  have hH : Hw G w1 H := by rw [ew1]; exact hH
  have hw1_aT : w1 aT = some (.inl (G.2.1.2.2.1, 4096, .inl th)) := by rw [ew1, va_up_ne _ _ (wne hT hY (by simp))]; exact hT
  have hw1_aX : w1 aX = some (.inl (G.2.1.1, 4096, .inl lx)) := by rw [ew1, va_up_ne _ _ (wne hX hY (by simp))]; exact hX
  have hw1_aY : w1 aY = some (.inl (G.2.1.1, 4096, .inl ly)) := by rw [ew1, va_up_ne _ _ (wne hYy hY (by simp))]; exact hYy
  have hw1_aU : w1 aU = some (.inl (G.2.1.1, 4096, .inl ux)) := by rw [ew1, va_up_ne _ _ (wne hU9 hY (by simp))]; exact hU9
  have hw1_aV : w1 aV = some (.inl (G.2.1.1, 4096, .inl uy)) := by rw [ew1, va_up_ne _ _ (wne hV hY (by simp))]; exact hV
  have hw1_aR : w1 aR = some (.inl (G.2.1.1, 4096, .inl rf)) := by rw [ew1, va_up_ne _ _ (wne hR hY (by simp))]; exact hR
  have hw1_y : w1 y = some (.inr (3, [.int 0, .ref aT, .ref aX, .ref aY, .ref aU, .ref aV, .int (nI sz), .ref aR])) := by rw [ew1]; exact va_up_self _ _ _
  refine lv_iload_n hx hb d_M_result_5 rfl (lv_at hl 1 rfl) ?_
  refine lv_iconst (v := 0) hx hb d_M_result_6 (by decide) ?_
  refine lv_aload_n hx hb d_M_result_7 rfl (lv_at hl 0 rfl) ?_
  refine gf_M_55 C0 hH hw1_y rfl d_M_result_8 ?_
  refine lv_iconst (v := 1) hx hb d_M_result_11 (by decide) ?_
  refine lv_isub hx hb d_M_result_12 ?_
  refine pu_v (runS C0 (k_M_within l G w1 k 0 (nI sz - 1)) (cs_M_35 C0 ⟨Nat.le_of_ble_eq_true rfl, Nat.le_of_ble_eq_true rfl⟩) hH hS rfl hl.1 rfl (lv_room (Nat.le_of_ble_eq_true rfl)) d_M_result_13 ⟨by show _ ≤ 0; omega, by show _ ≤ 0; omega⟩) ?_
  refine lv_if_eq (tgt := 28) hx hb d_M_result_16 (by decide) (fun c_16 => ?_) (fun c_16 => ?_)
  · refine lv_aload_n hx hb d_M_result_28 rfl (lv_at hl 0 rfl) ?_
    refine lv_iconst (v := 1) hx hb d_M_result_29 (by decide) ?_
    refine gn_i (runV C0 (k_M_fail l G w1 1 hw1_y) (cs_M_43 C0 ⟨Nat.le_of_ble_eq_true rfl, Nat.le_of_ble_eq_true rfl⟩) hH hS (hd_recv C0.hK hH rfl hw1_y) rfl hl.1 rfl (lv_room (Nat.le_of_ble_eq_true rfl)) d_M_result_30 ⟨by show _ ≤ 0; omega, by show _ ≤ 0; omega⟩) hS (fun r2 w2 H locs hp2 hH hS => ?_)
    obtain ⟨rfl, ew2⟩ := hp2
    have hF9 := (show MAt G w1 y aT aX aY aU aV aR 0 th lx ly ux uy sz rf from ⟨hw1_y, hw1_aT, hw1_aX, hw1_aY, hw1_aU, hw1_aV, hw1_aR, hDi⟩).tc ew2
    have hK9 : Kp w w2 [y, aT, aX, aY, aU, aV, aR] := by rw [ew2, ew1]; exact (Kp.up (Or.inl (by simp))).ups (Or.inl (by simp))
    refine W.widen (k := 0) (n := 0) (by omega) (by omega) ?_
    exact W.iret hx hb hr (fun t ht hW => ⟨⟨0, w2, rfl, ⟨rfl, hF9, hK9⟩, Wo.at C0.ev hH hS ht hW⟩, hS.F ht⟩) hS.2.2 d_M_result_33 (hlocks := C0.2.2.2.2.2.2)
  · exact absurd (b01_f (fun h => hk9 ⟨h.1, k_lt hs9 h.2 h.1⟩)) c_16

set_option maxHeartbeats 4000000 in
set_option maxRecDepth 100000 in
theorem k_M_box (l : Launch) (G : Gl) (w : World) {y aT aX aY aU aV aR sz : Nat} {tc : Int32} {th lx ly ux uy rf : Nat → Int32} (hM : MAt G w y aT aX aY aU aV aR tc th lx ly ux uy sz rf) (b : Nat) (z : Int32) (hb9 : b < 4096) (ht9 : th b ≠ 0) (hz9 : okW z) :
    GnI l y_M_box ws_M_box 4 0 0 G w [.ref y, .int (nI b), .int z] (fun r w1 => r = bnd (mb lx ly ux uy b) z ∧ MDo G w w1 y aT aX aY aU aV aR 0 th lx ly ux uy sz rf) := by
  refine met_ent (by decide +kernel) (Nat.le_of_ble_eq_true rfl) (fun p e s m below meth c ls C0 hr hin hH hl => ?_)
  have hx := C0.1
  have hb := C0.2.1
  have hS : va_S (gA G) s.heap s.heap [] := va_S.rf
  have hA : ∀ q : Nat, s.heap.size ≤ q → gA G q := fun q h => Nat.le_trans C0.ev.2.2.2.2.2.2.2.2.2.2.2.2 h
  have hl : lv_has ls 3 [(0, .ref y), (1, .int (nI b)), (2, .int z)] := hl
  obtain ⟨hY, hT, hX, hYy, hU9, hV, hR, hDi⟩ := id hM
  obtain ⟨n_TX, n_TY, n_TU, n_TV, n_TR, n_XY, n_XU, n_XV, n_XR, n_YU, n_YV, n_YR, n_UV, n_UR, n_VR⟩ := id hDi
  refine lv_aload_n hx hb d_M_box_0 rfl (lv_at hl 0 rfl) ?_
  refine lv_iconst (v := 0) hx hb d_M_box_1 (by decide) ?_
  refine pf_M_29 C0 hH hS hY rfl rfl (Nat.le_of_ble_eq_true rfl) d_M_box_2 (fun H locs hH hS => ?_)
  obtain ⟨w1, ew1⟩ : ∃ z : World, z = va_up w y (some (.inr (3, [.int 0, .ref aT, .ref aX, .ref aY, .ref aU, .ref aV, .int (nI sz), .ref aR]))) := ⟨_, rfl⟩
  have hH : Hw G w1 H := by rw [ew1]; exact hH
  have hw1_aT : w1 aT = some (.inl (G.2.1.2.2.1, 4096, .inl th)) := by rw [ew1, va_up_ne _ _ (wne hT hY (by simp))]; exact hT
  have hw1_aX : w1 aX = some (.inl (G.2.1.1, 4096, .inl lx)) := by rw [ew1, va_up_ne _ _ (wne hX hY (by simp))]; exact hX
  have hw1_aY : w1 aY = some (.inl (G.2.1.1, 4096, .inl ly)) := by rw [ew1, va_up_ne _ _ (wne hYy hY (by simp))]; exact hYy
  have hw1_aU : w1 aU = some (.inl (G.2.1.1, 4096, .inl ux)) := by rw [ew1, va_up_ne _ _ (wne hU9 hY (by simp))]; exact hU9
  have hw1_aV : w1 aV = some (.inl (G.2.1.1, 4096, .inl uy)) := by rw [ew1, va_up_ne _ _ (wne hV hY (by simp))]; exact hV
  have hw1_aR : w1 aR = some (.inl (G.2.1.1, 4096, .inl rf)) := by rw [ew1, va_up_ne _ _ (wne hR hY (by simp))]; exact hR
  have hw1_y : w1 y = some (.inr (3, [.int 0, .ref aT, .ref aX, .ref aY, .ref aU, .ref aV, .int (nI sz), .ref aR])) := by rw [ew1]; exact va_up_self _ _ _
  refine lv_aload_n hx hb d_M_box_5 rfl (lv_at hl 0 rfl) ?_
  refine lv_iload_n hx hb d_M_box_6 rfl (lv_at hl 1 rfl) ?_
  have hM1 : MAt G w1 y aT aX aY aU aV aR 0 th lx ly ux uy sz rf := ⟨hw1_y, hw1_aT, hw1_aX, hw1_aY, hw1_aU, hw1_aV, hw1_aR, hDi⟩
  refine pu_v (runV C0 (k_M_isThere l G w1 hM1 b hb9) (cs_M_78 C0 ⟨Nat.le_of_ble_eq_true rfl, Nat.le_of_ble_eq_true rfl⟩) hH hS (hd_recv C0.hK hH rfl hw1_y) rfl hl.1 rfl (lv_room (Nat.le_of_ble_eq_true rfl)) d_M_box_7 ⟨by show _ ≤ 0; omega, by show _ ≤ 0; omega⟩) ?_
  refine lv_if_eq (tgt := 31) hx hb d_M_box_10 (by decide) (fun c_10 => ?_) (fun c_10 => ?_)
  · exact absurd ((b01_t ht9).symm.trans c_10) (by decide)
  · refine lv_iload_n hx hb d_M_box_13 rfl (lv_at hl 2 rfl) ?_
    refine lv_iconst (v := 0) hx hb d_M_box_14 (by decide) ?_
    refine lv_iconst (v := 3) hx hb d_M_box_15 (by decide) ?_
    refine pu_v (runS C0 (k_M_within l G w1 z 0 3) (cs_M_35 C0 ⟨Nat.le_of_ble_eq_true rfl, Nat.le_of_ble_eq_true rfl⟩) hH hS rfl hl.1 rfl (lv_room (Nat.le_of_ble_eq_true rfl)) d_M_box_16 ⟨by show _ ≤ 0; omega, by show _ ≤ 0; omega⟩) ?_
    refine lv_if_eq (tgt := 31) hx hb d_M_box_19 (by decide) (fun c_19 => ?_) (fun c_19 => ?_)
    · exact absurd ((b01_t hz9).symm.trans c_19) (by decide)
    · refine lv_aload_n hx hb d_M_box_22 rfl (lv_at hl 0 rfl) ?_
      refine lv_iload_n hx hb d_M_box_23 rfl (lv_at hl 1 rfl) ?_
      refine lv_iload_n hx hb d_M_box_24 rfl (lv_at hl 2 rfl) ?_
      refine pu_v (runV C0 (k_M_bound l G w1 hM1 b (by omega) z) (cs_M_81 C0 ⟨Nat.le_of_ble_eq_true rfl, Nat.le_of_ble_eq_true rfl⟩) hH hS (hd_recv C0.hK hH rfl hw1_y) rfl hl.1 rfl (lv_room (Nat.le_of_ble_eq_true rfl)) d_M_box_25 ⟨by show _ ≤ 0; omega, by show _ ≤ 0; omega⟩) ?_
      refine lv_goto (tgt := 36) hx hb d_M_box_28 (by decide) ?_
      refine W.widen (k := 0) (n := 0) (by omega) (by omega) ?_
      exact W.iret hx hb hr (fun t ht hW => ⟨⟨(bnd (mb lx ly ux uy b) z), w1, rfl, ⟨rfl, ⟨⟨hw1_y, hw1_aT, hw1_aX, hw1_aY, hw1_aU, hw1_aV, hw1_aR, hDi⟩, by rw [ew1]; exact Kp.up (Or.inl (by simp))⟩⟩, Wo.at C0.ev hH hS ht hW⟩, hS.F ht⟩) hS.2.2 d_M_box_36 (hlocks := C0.2.2.2.2.2.2)

set_option maxHeartbeats 4000000 in
set_option maxRecDepth 100000 in
theorem k_M_box1 (l : Launch) (G : Gl) (w : World) {y aT aX aY aU aV aR sz : Nat} {tc : Int32} {th lx ly ux uy rf : Nat → Int32} (hM : MAt G w y aT aX aY aU aV aR tc th lx ly ux uy sz rf) (b : Nat) (z : Int32) (hb9 : b < 4096) (hz9 : ¬ (th b ≠ 0 ∧ okW z)) :
    GnI l y_M_box ws_M_box 4 0 0 G w [.ref y, .int (nI b), .int z] (fun r w1 => r = 0 ∧ MDo G w w1 y aT aX aY aU aV aR 1 th lx ly ux uy sz rf) := by
  refine met_ent (by decide +kernel) (Nat.le_of_ble_eq_true rfl) (fun p e s m below meth c ls C0 hr hin hH hl => ?_)
  have hx := C0.1
  have hb := C0.2.1
  have hS : va_S (gA G) s.heap s.heap [] := va_S.rf
  have hA : ∀ q : Nat, s.heap.size ≤ q → gA G q := fun q h => Nat.le_trans C0.ev.2.2.2.2.2.2.2.2.2.2.2.2 h
  have hl : lv_has ls 3 [(0, .ref y), (1, .int (nI b)), (2, .int z)] := hl
  obtain ⟨hY, hT, hX, hYy, hU9, hV, hR, hDi⟩ := id hM
  obtain ⟨n_TX, n_TY, n_TU, n_TV, n_TR, n_XY, n_XU, n_XV, n_XR, n_YU, n_YV, n_YR, n_UV, n_UR, n_VR⟩ := id hDi
  refine lv_aload_n hx hb d_M_box_0 rfl (lv_at hl 0 rfl) ?_
  refine lv_iconst (v := 0) hx hb d_M_box_1 (by decide) ?_
  refine pf_M_29 C0 hH hS hY rfl rfl (Nat.le_of_ble_eq_true rfl) d_M_box_2 (fun H locs hH hS => ?_)
  obtain ⟨w1, ew1⟩ : ∃ z : World, z = va_up w y (some (.inr (3, [.int 0, .ref aT, .ref aX, .ref aY, .ref aU, .ref aV, .int (nI sz), .ref aR]))) := ⟨_, rfl⟩
  have hH : Hw G w1 H := by rw [ew1]; exact hH
  have hw1_aT : w1 aT = some (.inl (G.2.1.2.2.1, 4096, .inl th)) := by rw [ew1, va_up_ne _ _ (wne hT hY (by simp))]; exact hT
  have hw1_aX : w1 aX = some (.inl (G.2.1.1, 4096, .inl lx)) := by rw [ew1, va_up_ne _ _ (wne hX hY (by simp))]; exact hX
  have hw1_aY : w1 aY = some (.inl (G.2.1.1, 4096, .inl ly)) := by rw [ew1, va_up_ne _ _ (wne hYy hY (by simp))]; exact hYy
  have hw1_aU : w1 aU = some (.inl (G.2.1.1, 4096, .inl ux)) := by rw [ew1, va_up_ne _ _ (wne hU9 hY (by simp))]; exact hU9
  have hw1_aV : w1 aV = some (.inl (G.2.1.1, 4096, .inl uy)) := by rw [ew1, va_up_ne _ _ (wne hV hY (by simp))]; exact hV
  have hw1_aR : w1 aR = some (.inl (G.2.1.1, 4096, .inl rf)) := by rw [ew1, va_up_ne _ _ (wne hR hY (by simp))]; exact hR
  have hw1_y : w1 y = some (.inr (3, [.int 0, .ref aT, .ref aX, .ref aY, .ref aU, .ref aV, .int (nI sz), .ref aR])) := by rw [ew1]; exact va_up_self _ _ _
  refine lv_aload_n hx hb d_M_box_5 rfl (lv_at hl 0 rfl) ?_
  refine lv_iload_n hx hb d_M_box_6 rfl (lv_at hl 1 rfl) ?_
  have hM1 : MAt G w1 y aT aX aY aU aV aR 0 th lx ly ux uy sz rf := ⟨hw1_y, hw1_aT, hw1_aX, hw1_aY, hw1_aU, hw1_aV, hw1_aR, hDi⟩
  refine pu_v (runV C0 (k_M_isThere l G w1 hM1 b hb9) (cs_M_78 C0 ⟨Nat.le_of_ble_eq_true rfl, Nat.le_of_ble_eq_true rfl⟩) hH hS (hd_recv C0.hK hH rfl hw1_y) rfl hl.1 rfl (lv_room (Nat.le_of_ble_eq_true rfl)) d_M_box_7 ⟨by show _ ≤ 0; omega, by show _ ≤ 0; omega⟩) ?_
  refine lv_if_eq (tgt := 31) hx hb d_M_box_10 (by decide) (fun c_10 => ?_) (fun c_10 => ?_)
  · refine lv_aload_n hx hb d_M_box_31 rfl (lv_at hl 0 rfl) ?_
    refine lv_iconst (v := 1) hx hb d_M_box_32 (by decide) ?_
    refine gn_i (runV C0 (k_M_fail l G w1 1 hw1_y) (cs_M_43 C0 ⟨Nat.le_of_ble_eq_true rfl, Nat.le_of_ble_eq_true rfl⟩) hH hS (hd_recv C0.hK hH rfl hw1_y) rfl hl.1 rfl (lv_room (Nat.le_of_ble_eq_true rfl)) d_M_box_33 ⟨by show _ ≤ 0; omega, by show _ ≤ 0; omega⟩) hS (fun r2 w2 H locs hp2 hH hS => ?_)
    obtain ⟨rfl, ew2⟩ := hp2
    have hF9 := (show MAt G w1 y aT aX aY aU aV aR 0 th lx ly ux uy sz rf from ⟨hw1_y, hw1_aT, hw1_aX, hw1_aY, hw1_aU, hw1_aV, hw1_aR, hDi⟩).tc ew2
    have hK9 : Kp w w2 [y, aT, aX, aY, aU, aV, aR] := by rw [ew2, ew1]; exact (Kp.up (Or.inl (by simp))).ups (Or.inl (by simp))
    refine W.widen (k := 0) (n := 0) (by omega) (by omega) ?_
    exact W.iret hx hb hr (fun t ht hW => ⟨⟨0, w2, rfl, ⟨rfl, hF9, hK9⟩, Wo.at C0.ev hH hS ht hW⟩, hS.F ht⟩) hS.2.2 d_M_box_36 (hlocks := C0.2.2.2.2.2.2)
  · refine lv_iload_n hx hb d_M_box_13 rfl (lv_at hl 2 rfl) ?_
    refine lv_iconst (v := 0) hx hb d_M_box_14 (by decide) ?_
    refine lv_iconst (v := 3) hx hb d_M_box_15 (by decide) ?_
    refine pu_v (runS C0 (k_M_within l G w1 z 0 3) (cs_M_35 C0 ⟨Nat.le_of_ble_eq_true rfl, Nat.le_of_ble_eq_true rfl⟩) hH hS rfl hl.1 rfl (lv_room (Nat.le_of_ble_eq_true rfl)) d_M_box_16 ⟨by show _ ≤ 0; omega, by show _ ≤ 0; omega⟩) ?_
    refine lv_if_eq (tgt := 31) hx hb d_M_box_19 (by decide) (fun c_19 => ?_) (fun c_19 => ?_)
    · refine lv_aload_n hx hb d_M_box_31 rfl (lv_at hl 0 rfl) ?_
      refine lv_iconst (v := 1) hx hb d_M_box_32 (by decide) ?_
      refine gn_i (runV C0 (k_M_fail l G w1 1 hw1_y) (cs_M_43 C0 ⟨Nat.le_of_ble_eq_true rfl, Nat.le_of_ble_eq_true rfl⟩) hH hS (hd_recv C0.hK hH rfl hw1_y) rfl hl.1 rfl (lv_room (Nat.le_of_ble_eq_true rfl)) d_M_box_33 ⟨by show _ ≤ 0; omega, by show _ ≤ 0; omega⟩) hS (fun r3 w3 H locs hp3 hH hS => ?_)
      obtain ⟨rfl, ew3⟩ := hp3
      have hF9 := (show MAt G w1 y aT aX aY aU aV aR 0 th lx ly ux uy sz rf from ⟨hw1_y, hw1_aT, hw1_aX, hw1_aY, hw1_aU, hw1_aV, hw1_aR, hDi⟩).tc ew3
      have hK9 : Kp w w3 [y, aT, aX, aY, aU, aV, aR] := by rw [ew3, ew1]; exact (Kp.up (Or.inl (by simp))).ups (Or.inl (by simp))
      refine W.widen (k := 0) (n := 0) (by omega) (by omega) ?_
      exact W.iret hx hb hr (fun t ht hW => ⟨⟨0, w3, rfl, ⟨rfl, hF9, hK9⟩, Wo.at C0.ev hH hS ht hW⟩, hS.F ht⟩) hS.2.2 d_M_box_36 (hlocks := C0.2.2.2.2.2.2)
    · exact absurd ⟨Classical.byContradiction (fun q => c_10 (b01_f q)), Classical.byContradiction (fun q => c_19 (b01_f q))⟩ hz9

set_option maxHeartbeats 4000000 in
set_option maxRecDepth 100000 in
theorem k_M_box2 (l : Launch) (G : Gl) (w : World) {y aT aX aY aU aV aR sz : Nat} {tc : Int32} {th lx ly ux uy rf : Nat → Int32} (hM : MAt G w y aT aX aY aU aV aR tc th lx ly ux uy sz rf) (n z : Int32) (hn9 : ¬ okN n) :
    GnI l y_M_box ws_M_box 4 0 0 G w [.ref y, .int n, .int z] (fun r w1 => r = 0 ∧ MDo G w w1 y aT aX aY aU aV aR 1 th lx ly ux uy sz rf) := by
  refine met_ent (by decide +kernel) (Nat.le_of_ble_eq_true rfl) (fun p e s m below meth c ls C0 hr hin hH hl => ?_)
  have hx := C0.1
  have hb := C0.2.1
  have hS : va_S (gA G) s.heap s.heap [] := va_S.rf
  have hA : ∀ q : Nat, s.heap.size ≤ q → gA G q := fun q h => Nat.le_trans C0.ev.2.2.2.2.2.2.2.2.2.2.2.2 h
  have hl : lv_has ls 3 [(0, .ref y), (1, .int n), (2, .int z)] := hl
  obtain ⟨hY, hT, hX, hYy, hU9, hV, hR, hDi⟩ := id hM
  obtain ⟨n_TX, n_TY, n_TU, n_TV, n_TR, n_XY, n_XU, n_XV, n_XR, n_YU, n_YV, n_YR, n_UV, n_UR, n_VR⟩ := id hDi
  refine lv_aload_n hx hb d_M_box_0 rfl (lv_at hl 0 rfl) ?_
  refine lv_iconst (v := 0) hx hb d_M_box_1 (by decide) ?_
  refine pf_M_29 C0 hH hS hY rfl rfl (Nat.le_of_ble_eq_true rfl) d_M_box_2 (fun H locs hH hS => ?_)
  obtain ⟨w1, ew1⟩ : ∃ z : World, z = va_up w y (some (.inr (3, [.int 0, .ref aT, .ref aX, .ref aY, .ref aU, .ref aV, .int (nI sz), .ref aR]))) := ⟨_, rfl⟩
  have hH : Hw G w1 H := by rw [ew1]; exact hH
  have hw1_aT : w1 aT = some (.inl (G.2.1.2.2.1, 4096, .inl th)) := by rw [ew1, va_up_ne _ _ (wne hT hY (by simp))]; exact hT
  have hw1_aX : w1 aX = some (.inl (G.2.1.1, 4096, .inl lx)) := by rw [ew1, va_up_ne _ _ (wne hX hY (by simp))]; exact hX
  have hw1_aY : w1 aY = some (.inl (G.2.1.1, 4096, .inl ly)) := by rw [ew1, va_up_ne _ _ (wne hYy hY (by simp))]; exact hYy
  have hw1_aU : w1 aU = some (.inl (G.2.1.1, 4096, .inl ux)) := by rw [ew1, va_up_ne _ _ (wne hU9 hY (by simp))]; exact hU9
  have hw1_aV : w1 aV = some (.inl (G.2.1.1, 4096, .inl uy)) := by rw [ew1, va_up_ne _ _ (wne hV hY (by simp))]; exact hV
  have hw1_aR : w1 aR = some (.inl (G.2.1.1, 4096, .inl rf)) := by rw [ew1, va_up_ne _ _ (wne hR hY (by simp))]; exact hR
  have hw1_y : w1 y = some (.inr (3, [.int 0, .ref aT, .ref aX, .ref aY, .ref aU, .ref aV, .int (nI sz), .ref aR])) := by rw [ew1]; exact va_up_self _ _ _
  refine lv_aload_n hx hb d_M_box_5 rfl (lv_at hl 0 rfl) ?_
  refine lv_iload_n hx hb d_M_box_6 rfl (lv_at hl 1 rfl) ?_
  have hM1 : MAt G w1 y aT aX aY aU aV aR 0 th lx ly ux uy sz rf := ⟨hw1_y, hw1_aT, hw1_aX, hw1_aY, hw1_aU, hw1_aV, hw1_aR, hDi⟩
  refine pu_v (runV C0 (k_M_isThere0 l G w1 hM1 n hn9) (cs_M_78 C0 ⟨Nat.le_of_ble_eq_true rfl, Nat.le_of_ble_eq_true rfl⟩) hH hS (hd_recv C0.hK hH rfl hw1_y) rfl hl.1 rfl (lv_room (Nat.le_of_ble_eq_true rfl)) d_M_box_7 ⟨by show _ ≤ 0; omega, by show _ ≤ 0; omega⟩) ?_
  refine lv_if_eq (tgt := 31) hx hb d_M_box_10 (by decide) (fun c_10 => ?_) (fun c_10 => ?_)
  · refine lv_aload_n hx hb d_M_box_31 rfl (lv_at hl 0 rfl) ?_
    refine lv_iconst (v := 1) hx hb d_M_box_32 (by decide) ?_
    refine gn_i (runV C0 (k_M_fail l G w1 1 hw1_y) (cs_M_43 C0 ⟨Nat.le_of_ble_eq_true rfl, Nat.le_of_ble_eq_true rfl⟩) hH hS (hd_recv C0.hK hH rfl hw1_y) rfl hl.1 rfl (lv_room (Nat.le_of_ble_eq_true rfl)) d_M_box_33 ⟨by show _ ≤ 0; omega, by show _ ≤ 0; omega⟩) hS (fun r2 w2 H locs hp2 hH hS => ?_)
    obtain ⟨rfl, ew2⟩ := hp2
    have hF9 := (show MAt G w1 y aT aX aY aU aV aR 0 th lx ly ux uy sz rf from ⟨hw1_y, hw1_aT, hw1_aX, hw1_aY, hw1_aU, hw1_aV, hw1_aR, hDi⟩).tc ew2
    have hK9 : Kp w w2 [y, aT, aX, aY, aU, aV, aR] := by rw [ew2, ew1]; exact (Kp.up (Or.inl (by simp))).ups (Or.inl (by simp))
    refine W.widen (k := 0) (n := 0) (by omega) (by omega) ?_
    exact W.iret hx hb hr (fun t ht hW => ⟨⟨0, w2, rfl, ⟨rfl, hF9, hK9⟩, Wo.at C0.ev hH hS ht hW⟩, hS.F ht⟩) hS.2.2 d_M_box_36 (hlocks := C0.2.2.2.2.2.2)
  · exact absurd rfl c_10

set_option maxHeartbeats 4000000 in
set_option maxRecDepth 100000 in
theorem k_M_count (l : Launch) (G : Gl) (w : World) {y aT aX aY aU aV aR sz : Nat} {tc : Int32} {th lx ly ux uy rf : Nat → Int32} (hM : MAt G w y aT aX aY aU aV aR tc th lx ly ux uy sz rf) (k : Int32) :
    GnI l y_M_count ws_M_count 4 0 0 G w [.ref y, .int k] (fun r w1 => r = (if k = 0 then nI (cntT th 4096) else if k = 1 then nI sz else -1) ∧ MDo G w w1 y aT aX aY aU aV aR 0 th lx ly ux uy sz rf) := by
  refine met_ent (by decide +kernel) (Nat.le_of_ble_eq_true rfl) (fun p e s m below meth c ls C0 hr hin hH hl => ?_)
  have hx := C0.1
  have hb := C0.2.1
  have hS : va_S (gA G) s.heap s.heap [] := va_S.rf
  have hA : ∀ q : Nat, s.heap.size ≤ q → gA G q := fun q h => Nat.le_trans C0.ev.2.2.2.2.2.2.2.2.2.2.2.2 h
  have hl : lv_has ls 2 [(0, .ref y), (1, .int k)] := hl
  obtain ⟨hY, hT, hX, hYy, hU9, hV, hR, hDi⟩ := id hM
  obtain ⟨n_TX, n_TY, n_TU, n_TV, n_TR, n_XY, n_XU, n_XV, n_XR, n_YU, n_YV, n_YR, n_UV, n_UR, n_VR⟩ := id hDi
  refine lv_aload_n hx hb d_M_count_0 rfl (lv_at hl 0 rfl) ?_
  refine lv_iconst (v := 0) hx hb d_M_count_1 (by decide) ?_
  refine pf_M_29 C0 hH hS hY rfl rfl (Nat.le_of_ble_eq_true rfl) d_M_count_2 (fun H locs hH hS => ?_)
  obtain ⟨w1, ew1⟩ : ∃ z : World, z = va_up w y (some (.inr (3, [.int 0, .ref aT, .ref aX, .ref aY, .ref aU, .ref aV, .int (nI sz), .ref aR]))) := ⟨_, rfl⟩
  have hH : Hw G w1 H := by rw [ew1]; exact hH
  have hw1_aT : w1 aT = some (.inl (G.2.1.2.2.1, 4096, .inl th)) := by rw [ew1, va_up_ne _ _ (wne hT hY (by simp))]; exact hT
  have hw1_aX : w1 aX = some (.inl (G.2.1.1, 4096, .inl lx)) := by rw [ew1, va_up_ne _ _ (wne hX hY (by simp))]; exact hX
  have hw1_aY : w1 aY = some (.inl (G.2.1.1, 4096, .inl ly)) := by rw [ew1, va_up_ne _ _ (wne hYy hY (by simp))]; exact hYy
  have hw1_aU : w1 aU = some (.inl (G.2.1.1, 4096, .inl ux)) := by rw [ew1, va_up_ne _ _ (wne hU9 hY (by simp))]; exact hU9
  have hw1_aV : w1 aV = some (.inl (G.2.1.1, 4096, .inl uy)) := by rw [ew1, va_up_ne _ _ (wne hV hY (by simp))]; exact hV
  have hw1_aR : w1 aR = some (.inl (G.2.1.1, 4096, .inl rf)) := by rw [ew1, va_up_ne _ _ (wne hR hY (by simp))]; exact hR
  have hw1_y : w1 y = some (.inr (3, [.int 0, .ref aT, .ref aX, .ref aY, .ref aU, .ref aV, .int (nI sz), .ref aR])) := by rw [ew1]; exact va_up_self _ _ _
  refine lv_iload_n hx hb d_M_count_5 rfl (lv_at hl 1 rfl) ?_
  refine lv_if_ne (tgt := 16) hx hb d_M_count_6 (by decide) (fun c_6 => ?_) (fun c_6 => ?_)
  · refine lv_iload_n hx hb d_M_count_16 rfl (lv_at hl 1 rfl) ?_
    refine lv_iconst (v := 1) hx hb d_M_count_17 (by decide) ?_
    refine lv_icmp_ne (tgt := 28) hx hb d_M_count_18 (by decide) (fun c_18 => ?_) (fun c_18 => ?_)
    · refine lv_iconst (v := (-1)) hx hb d_M_count_28 (by decide) ?_
      refine W.widen (k := 0) (n := 0) (by omega) (by omega) ?_
      exact W.iret hx hb hr (fun t ht hW => ⟨⟨(-1), w1, rfl, ⟨by rw [if_neg c_6, if_neg c_18], ⟨⟨hw1_y, hw1_aT, hw1_aX, hw1_aY, hw1_aU, hw1_aV, hw1_aR, hDi⟩, by rw [ew1]; exact Kp.up (Or.inl (by simp))⟩⟩, Wo.at C0.ev hH hS ht hW⟩, hS.F ht⟩) hS.2.2 d_M_count_29 (hlocks := C0.2.2.2.2.2.2)
    · refine lv_aload_n hx hb d_M_count_21 rfl (lv_at hl 0 rfl) ?_
      refine gf_M_55 C0 hH hw1_y rfl d_M_count_22 ?_
      refine lv_goto (tgt := 29) hx hb d_M_count_25 (by decide) ?_
      refine W.widen (k := 0) (n := 0) (by omega) (by omega) ?_
      exact W.iret hx hb hr (fun t ht hW => ⟨⟨(nI sz), w1, rfl, ⟨by rw [if_neg c_6, if_pos c_18], ⟨⟨hw1_y, hw1_aT, hw1_aX, hw1_aY, hw1_aU, hw1_aV, hw1_aR, hDi⟩, by rw [ew1]; exact Kp.up (Or.inl (by simp))⟩⟩, Wo.at C0.ev hH hS ht hW⟩, hS.F ht⟩) hS.2.2 d_M_count_29 (hlocks := C0.2.2.2.2.2.2)
  · refine lv_aload_n hx hb d_M_count_9 rfl (lv_at hl 0 rfl) ?_
    have hM1 : MAt G w1 y aT aX aY aU aV aR 0 th lx ly ux uy sz rf := ⟨hw1_y, hw1_aT, hw1_aX, hw1_aY, hw1_aU, hw1_aV, hw1_aR, hDi⟩
    refine pu_v (runV C0 (k_M_many l G w1 hM1) (cs_M_51 C0 ⟨Nat.le_of_ble_eq_true rfl, Nat.le_of_ble_eq_true rfl⟩) hH hS (hd_recv C0.hK hH rfl hw1_y) rfl hl.1 rfl (lv_room (Nat.le_of_ble_eq_true rfl)) d_M_count_10 ⟨by show _ ≤ 0; omega, by show _ ≤ 0; omega⟩) ?_
    refine lv_goto (tgt := 29) hx hb d_M_count_13 (by decide) ?_
    refine W.widen (k := 0) (n := 0) (by omega) (by omega) ?_
    exact W.iret hx hb hr (fun t ht hW => ⟨⟨(nI (cntT th 4096)), w1, rfl, ⟨by rw [if_pos c_6], ⟨⟨hw1_y, hw1_aT, hw1_aX, hw1_aY, hw1_aU, hw1_aV, hw1_aR, hDi⟩, by rw [ew1]; exact Kp.up (Or.inl (by simp))⟩⟩, Wo.at C0.ev hH hS ht hW⟩, hS.F ht⟩) hS.2.2 d_M_count_29 (hlocks := C0.2.2.2.2.2.2)

set_option maxHeartbeats 4000000 in
set_option maxRecDepth 100000 in
theorem k_M_clear (l : Launch) (G : Gl) (w : World) {y aT aX aY aU aV aR sz : Nat} {tc : Int32} {th lx ly ux uy rf : Nat → Int32} (hM : MAt G w y aT aX aY aU aV aR tc th lx ly ux uy sz rf)  :
    GnI l y_M_clear ws_M_clear 4 0 0 G w [.ref y] (fun r w1 => r = nI (cntT th 4096) ∧ ∃ th1 : Nat → Int32, (∀ i : Nat, i < 4096 → th1 i = 0) ∧ (∀ i : Nat, 4096 ≤ i → th1 i = th i) ∧ MDo G w w1 y aT aX aY aU aV aR 0 th1 lx ly ux uy sz rf) := by
  refine met_ent (by decide +kernel) (Nat.le_of_ble_eq_true rfl) (fun p e s m below meth c ls C0 hr hin hH hl => ?_)
  have hx := C0.1
  have hb := C0.2.1
  have hS : va_S (gA G) s.heap s.heap [] := va_S.rf
  have hA : ∀ q : Nat, s.heap.size ≤ q → gA G q := fun q h => Nat.le_trans C0.ev.2.2.2.2.2.2.2.2.2.2.2.2 h
  have hl : lv_has ls 3 [(0, .ref y)] := hl
  obtain ⟨hY, hT, hX, hYy, hU9, hV, hR, hDi⟩ := id hM
  obtain ⟨n_TX, n_TY, n_TU, n_TV, n_TR, n_XY, n_XU, n_XV, n_XR, n_YU, n_YV, n_YR, n_UV, n_UR, n_VR⟩ := id hDi
  refine lv_aload_n hx hb d_M_clear_0 rfl (lv_at hl 0 rfl) ?_
  refine lv_iconst (v := 0) hx hb d_M_clear_1 (by decide) ?_
  refine pf_M_29 C0 hH hS hY rfl rfl (Nat.le_of_ble_eq_true rfl) d_M_clear_2 (fun H locs hH hS => ?_)
  obtain ⟨w1, ew1⟩ : ∃ z : World, z = va_up w y (some (.inr (3, [.int 0, .ref aT, .ref aX, .ref aY, .ref aU, .ref aV, .int (nI sz), .ref aR]))) := ⟨_, rfl⟩
  have hH : Hw G w1 H := by rw [ew1]; exact hH
  have hw1_aT : w1 aT = some (.inl (G.2.1.2.2.1, 4096, .inl th)) := by rw [ew1, va_up_ne _ _ (wne hT hY (by simp))]; exact hT
  have hw1_aX : w1 aX = some (.inl (G.2.1.1, 4096, .inl lx)) := by rw [ew1, va_up_ne _ _ (wne hX hY (by simp))]; exact hX
  have hw1_aY : w1 aY = some (.inl (G.2.1.1, 4096, .inl ly)) := by rw [ew1, va_up_ne _ _ (wne hYy hY (by simp))]; exact hYy
  have hw1_aU : w1 aU = some (.inl (G.2.1.1, 4096, .inl ux)) := by rw [ew1, va_up_ne _ _ (wne hU9 hY (by simp))]; exact hU9
  have hw1_aV : w1 aV = some (.inl (G.2.1.1, 4096, .inl uy)) := by rw [ew1, va_up_ne _ _ (wne hV hY (by simp))]; exact hV
  have hw1_aR : w1 aR = some (.inl (G.2.1.1, 4096, .inl rf)) := by rw [ew1, va_up_ne _ _ (wne hR hY (by simp))]; exact hR
  have hw1_y : w1 y = some (.inr (3, [.int 0, .ref aT, .ref aX, .ref aY, .ref aU, .ref aV, .int (nI sz), .ref aR])) := by rw [ew1]; exact va_up_self _ _ _
  refine lv_aload_n hx hb d_M_clear_5 rfl (lv_at hl 0 rfl) ?_
  have hM1 : MAt G w1 y aT aX aY aU aV aR 0 th lx ly ux uy sz rf := ⟨hw1_y, hw1_aT, hw1_aX, hw1_aY, hw1_aU, hw1_aV, hw1_aR, hDi⟩
  refine pu_v (runV C0 (k_M_many l G w1 hM1) (cs_M_51 C0 ⟨Nat.le_of_ble_eq_true rfl, Nat.le_of_ble_eq_true rfl⟩) hH hS (hd_recv C0.hK hH rfl hw1_y) rfl hl.1 rfl (lv_room (Nat.le_of_ble_eq_true rfl)) d_M_clear_6 ⟨by show _ ≤ 0; omega, by show _ ≤ 0; omega⟩) ?_
  refine lv_istore_n (lv' := [(1, .int (nI (cntT th 4096))), (0, .ref y)]) hx hb d_M_clear_9 rfl hl (by decide) rfl (fun ls hl => ?_)
  refine lv_iconst (v := 0) hx hb d_M_clear_10 (by decide) ?_
  refine lv_istore_n (lv' := [(2, .int 0), (1, .int (nI (cntT th 4096))), (0, .ref y)]) hx hb d_M_clear_11 rfl hl (by decide) rfl (fun ls hl => ?_)
  have hK1 : Kp w w1 [y, aT, aX, aY, aU, aV, aR] := by rw [ew1]; exact Kp.up (Or.inl (by simp))
  have loop : ∀ (u j : Nat), j + u = 4096 → ∀ (w9 : World) (t9 : Nat → Int32) (H : Heap) (locs : List Loc), Hw G w9 H → va_S (gA G) s.heap H locs → MAt G w9 y aT aX aY aU aV aR 0 t9 lx ly ux uy sz rf → Kp w w9 [y, aT, aX, aY, aU, aV, aR] → (∀ i : Nat, i < j → t9 i = 0) → (∀ i : Nat, 4096 ≤ i → t9 i = th i) → ∀ ls : Array Slot, lv_has ls 3 [(0, .ref y), (1, .int (nI (cntT th 4096))), (2, .int (nI j))] → W p l e (rmK 4 0 0) s m [.ref y].toArray below meth c H locs 0 0 (MQ below (va_Qi (fun r w1 => r = nI (cntT th 4096) ∧ ∃ th1 : Nat → Int32, (∀ i : Nat, i < 4096 → th1 i = 0) ∧ (∀ i : Nat, 4096 ≤ i → th1 i = th i) ∧ MDo G w w1 y aT aX aY aU aV aR 0 th1 lx ly ux uy sz rf) (Wo G) (gA G)) [.ref y].toArray s 0 0 (gA G)) (F0 m 12 ls []) := by
    intro u
    induction u with
    | zero =>
      intro j hj w9 t9 H locs hH hS hM9 hK9 ht1 ht2 ls hl
      obtain ⟨hY9, hT9, hX9, hYy9, hU99, hV9, hR9, -⟩ := id hM9
      refine lv_iload_n hx hb d_M_clear_12 rfl (lv_at hl 2 rfl) ?_
      refine lv_sipush (v := 4096) hx hb d_M_clear_13 (by decide) ?_
      refine lv_icmp_ge (tgt := 32) hx hb d_M_clear_16 (by decide) (fun c_16 => ?_) (fun c_16 => ?_)
      · refine lv_iload_n hx hb d_M_clear_32 rfl (lv_at hl 1 rfl) ?_
        refine W.widen (k := 0) (n := 0) (by omega) (by omega) ?_
        exact W.iret hx hb hr (fun t ht hW => ⟨⟨(nI (cntT th 4096)), w9, rfl, ⟨rfl, t9, fun i hi => ht1 i (by omega), ht2, hM9, hK9⟩, Wo.at C0.ev hH hS ht hW⟩, hS.F ht⟩) hS.2.2 d_M_clear_33 (hlocks := C0.2.2.2.2.2.2)
      · exact absurd (show nI 4096 ≤ nI j from nI_le (by omega) (by omega)) c_16
    | succ u ih =>
      intro j hj w9 t9 H locs hH hS hM9 hK9 ht1 ht2 ls hl
      obtain ⟨hY9, hT9, hX9, hYy9, hU99, hV9, hR9, -⟩ := id hM9
      refine lv_iload_n hx hb d_M_clear_12 rfl (lv_at hl 2 rfl) ?_
      refine lv_sipush (v := 4096) hx hb d_M_clear_13 (by decide) ?_
      refine lv_icmp_ge (tgt := 32) hx hb d_M_clear_16 (by decide) (fun c_16 => ?_) (fun c_16 => ?_)
      · exact absurd c_16 (Int32.not_le.mpr (show nI j < nI 4096 from nI_lt (by omega) (by omega)))
      · refine lv_aload_n hx hb d_M_clear_19 rfl (lv_at hl 0 rfl) ?_
        refine gf_M_7 C0 hH hY9 rfl d_M_clear_20 ?_
        refine lv_iload_n hx hb d_M_clear_23 rfl (lv_at hl 2 rfl) ?_
        refine lv_iconst (v := 0) hx hb d_M_clear_24 (by decide) ?_
        refine hd_zast hx hb C0.hK hH hS 2 hT9 rfl (vp_in_nI (by omega) (by omega)) rfl d_M_clear_25 (fun H locs hH hS => ?_)
        rw [nI_clamp (by omega)] at hH
        obtain ⟨w2, ew2⟩ : ∃ z : World, z = va_up w9 aT (some (.inl (G.2.1.2.2.1, 4096, .inl (upd t9 j 0)))) := ⟨_, rfl⟩
        have hH : Hw G w2 H := by rw [ew2]; exact hH
        have hw2_y : w2 y = some (.inr (3, [.int 0, .ref aT, .ref aX, .ref aY, .ref aU, .ref aV, .int (nI sz), .ref aR])) := by rw [ew2, va_up_ne _ _ (wne hY9 hT9 (by simp))]; exact hY9
        have hw2_aX : w2 aX = some (.inl (G.2.1.1, 4096, .inl lx)) := by rw [ew2, va_up_ne _ _ (n_TX.symm)]; exact hX9
        have hw2_aY : w2 aY = some (.inl (G.2.1.1, 4096, .inl ly)) := by rw [ew2, va_up_ne _ _ (n_TY.symm)]; exact hYy9
        have hw2_aU : w2 aU = some (.inl (G.2.1.1, 4096, .inl ux)) := by rw [ew2, va_up_ne _ _ (n_TU.symm)]; exact hU99
        have hw2_aV : w2 aV = some (.inl (G.2.1.1, 4096, .inl uy)) := by rw [ew2, va_up_ne _ _ (n_TV.symm)]; exact hV9
        have hw2_aR : w2 aR = some (.inl (G.2.1.1, 4096, .inl rf)) := by rw [ew2, va_up_ne _ _ (n_TR.symm)]; exact hR9
        have hw2_aT : w2 aT = some (.inl (G.2.1.2.2.1, 4096, .inl (upd t9 j 0))) := by rw [ew2]; exact va_up_self _ _ _
        obtain ⟨y_1, ey_1⟩ : ∃ z : Int32, z = (nI j) + 1 := ⟨_, rfl⟩
        refine lv_iinc (v := y_1) (lv' := [(2, .int y_1), (0, .ref y), (1, .int (nI (cntT th 4096)))]) hx hb d_M_clear_26 hl (k := 2) rfl (by rw [ey_1]; rfl) (by decide) rfl (fun ls hl => ?_)
        refine lv_goto (tgt := 12) hx hb d_M_clear_29 (by decide) ?_
        rw [show y_1 = nI (j + 1) from by rw [ey_1]; exact nI_1 j] at hl
        exact ih (j + 1) (by omega) w2 _ H locs hH hS ⟨hw2_y, hw2_aT, hw2_aX, hw2_aY, hw2_aU, hw2_aV, hw2_aR, hDi⟩ (by rw [ew2]; exact hK9.ups (Or.inl (by simp))) (fun i hi => by simp only [upd]; by_cases q : i = j; (· rw [if_pos q]); (· rw [if_neg q]; exact ht1 i (by omega))) (fun i hi => by simp only [upd]; rw [if_neg (by omega)]; exact ht2 i hi) ls (lv_sub hl [1, 2, 0] rfl)
  exact loop 4096 0 rfl w1 th H locs hH hS hM1 hK1 (fun i h => absurd h (Nat.not_lt_zero _)) (fun i _ => rfl) ls (lv_sub hl [2, 1, 0] rfl)

set_option maxHeartbeats 4000000 in
set_option maxRecDepth 100000 in
theorem k_M_distance (l : Launch) (G : Gl) (w : World) {y aT aX aY aU aV aR sz : Nat} {tc : Int32} {th lx ly ux uy rf : Nat → Int32} (hM : MAt G w y aT aX aY aU aV aR tc th lx ly ux uy sz rf) (b : Nat) (px py : Int32) (hb9 : b < 4096) (ht9 : th b ≠ 0) (hp9 : okP px py) :
    GnL l y_M_distance ws_M_distance 4 0 0 G w [.ref y, .int (nI b), .int px, .int py] (fun r w1 => r = bDst (mb lx ly ux uy b) px py ∧ MDo G w w1 y aT aX aY aU aV aR 0 th lx ly ux uy sz rf) := by
  refine met_ent (by decide +kernel) (Nat.le_of_ble_eq_true rfl) (fun p e s m below meth c ls C0 hr hin hH hl => ?_)
  have hx := C0.1
  have hb := C0.2.1
  have hS : va_S (gA G) s.heap s.heap [] := va_S.rf
  have hA : ∀ q : Nat, s.heap.size ≤ q → gA G q := fun q h => Nat.le_trans C0.ev.2.2.2.2.2.2.2.2.2.2.2.2 h
  have hl : lv_has ls 4 [(0, .ref y), (1, .int (nI b)), (2, .int px), (3, .int py)] := hl
  obtain ⟨hY, hT, hX, hYy, hU9, hV, hR, hDi⟩ := id hM
  obtain ⟨n_TX, n_TY, n_TU, n_TV, n_TR, n_XY, n_XU, n_XV, n_XR, n_YU, n_YV, n_YR, n_UV, n_UR, n_VR⟩ := id hDi
  refine lv_aload_n hx hb d_M_distance_0 rfl (lv_at hl 0 rfl) ?_
  refine lv_iconst (v := 0) hx hb d_M_distance_1 (by decide) ?_
  refine pf_M_29 C0 hH hS hY rfl rfl (Nat.le_of_ble_eq_true rfl) d_M_distance_2 (fun H locs hH hS => ?_)
  obtain ⟨w1, ew1⟩ : ∃ z : World, z = va_up w y (some (.inr (3, [.int 0, .ref aT, .ref aX, .ref aY, .ref aU, .ref aV, .int (nI sz), .ref aR]))) := ⟨_, rfl⟩
  have hH : Hw G w1 H := by rw [ew1]; exact hH
  have hw1_aT : w1 aT = some (.inl (G.2.1.2.2.1, 4096, .inl th)) := by rw [ew1, va_up_ne _ _ (wne hT hY (by simp))]; exact hT
  have hw1_aX : w1 aX = some (.inl (G.2.1.1, 4096, .inl lx)) := by rw [ew1, va_up_ne _ _ (wne hX hY (by simp))]; exact hX
  have hw1_aY : w1 aY = some (.inl (G.2.1.1, 4096, .inl ly)) := by rw [ew1, va_up_ne _ _ (wne hYy hY (by simp))]; exact hYy
  have hw1_aU : w1 aU = some (.inl (G.2.1.1, 4096, .inl ux)) := by rw [ew1, va_up_ne _ _ (wne hU9 hY (by simp))]; exact hU9
  have hw1_aV : w1 aV = some (.inl (G.2.1.1, 4096, .inl uy)) := by rw [ew1, va_up_ne _ _ (wne hV hY (by simp))]; exact hV
  have hw1_aR : w1 aR = some (.inl (G.2.1.1, 4096, .inl rf)) := by rw [ew1, va_up_ne _ _ (wne hR hY (by simp))]; exact hR
  have hw1_y : w1 y = some (.inr (3, [.int 0, .ref aT, .ref aX, .ref aY, .ref aU, .ref aV, .int (nI sz), .ref aR])) := by rw [ew1]; exact va_up_self _ _ _
  refine lv_aload_n hx hb d_M_distance_5 rfl (lv_at hl 0 rfl) ?_
  refine lv_iload_n hx hb d_M_distance_6 rfl (lv_at hl 1 rfl) ?_
  have hM1 : MAt G w1 y aT aX aY aU aV aR 0 th lx ly ux uy sz rf := ⟨hw1_y, hw1_aT, hw1_aX, hw1_aY, hw1_aU, hw1_aV, hw1_aR, hDi⟩
  refine pu_v (runV C0 (k_M_isThere l G w1 hM1 b hb9) (cs_M_78 C0 ⟨Nat.le_of_ble_eq_true rfl, Nat.le_of_ble_eq_true rfl⟩) hH hS (hd_recv C0.hK hH rfl hw1_y) rfl hl.1 rfl (lv_room (Nat.le_of_ble_eq_true rfl)) d_M_distance_7 ⟨by show _ ≤ 0; omega, by show _ ≤ 0; omega⟩) ?_
  refine lv_if_ne (tgt := 20) hx hb d_M_distance_10 (by decide) (fun c_10 => ?_) (fun c_10 => ?_)
  · refine lv_iload_n hx hb d_M_distance_20 rfl (lv_at hl 2 rfl) ?_
    refine pu_v (runS C0 (k_M_isFar l G w1 px) (cs_M_39 C0 ⟨Nat.le_of_ble_eq_true rfl, Nat.le_of_ble_eq_true rfl⟩) hH hS rfl hl.1 rfl (lv_room (Nat.le_of_ble_eq_true rfl)) d_M_distance_21 ⟨by show _ ≤ 0; omega, by show _ ≤ 0; omega⟩) ?_
    refine lv_if_ne (tgt := 34) hx hb d_M_distance_24 (by decide) (fun c_24 => ?_) (fun c_24 => ?_)
    · exact absurd (b01_f (fun q => q hp9.1)) c_24
    · refine lv_iload_n hx hb d_M_distance_27 rfl (lv_at hl 3 rfl) ?_
      refine pu_v (runS C0 (k_M_isFar l G w1 py) (cs_M_39 C0 ⟨Nat.le_of_ble_eq_true rfl, Nat.le_of_ble_eq_true rfl⟩) hH hS rfl hl.1 rfl (lv_room (Nat.le_of_ble_eq_true rfl)) d_M_distance_28 ⟨by show _ ≤ 0; omega, by show _ ≤ 0; omega⟩) ?_
      refine lv_if_eq (tgt := 43) hx hb d_M_distance_31 (by decide) (fun c_31 => ?_) (fun c_31 => ?_)
      · refine lv_aload_n hx hb d_M_distance_43 rfl (lv_at hl 0 rfl) ?_
        refine lv_iload_n hx hb d_M_distance_44 rfl (lv_at hl 1 rfl) ?_
        refine lv_iload_n hx hb d_M_distance_45 rfl (lv_at hl 2 rfl) ?_
        refine lv_iload_n hx hb d_M_distance_46 rfl (lv_at hl 3 rfl) ?_
        refine pu_v (runV C0 (k_M_away l G w1 hM1 b hb9 px py) (cs_M_74 C0 ⟨Nat.le_of_ble_eq_true rfl, Nat.le_of_ble_eq_true rfl⟩) hH hS (hd_recv C0.hK hH rfl hw1_y) rfl hl.1 rfl (lv_room (Nat.le_of_ble_eq_true rfl)) d_M_distance_47 ⟨by show _ ≤ 0; omega, by show _ ≤ 0; omega⟩) ?_
        refine W.widen (k := 0) (n := 0) (by omega) (by omega) ?_
        exact W.lret hx hb hr (fun t ht hW => ⟨⟨(bDst (mb lx ly ux uy b) px py), w1, rfl, ⟨rfl, ⟨⟨hw1_y, hw1_aT, hw1_aX, hw1_aY, hw1_aU, hw1_aV, hw1_aR, hDi⟩, by rw [ew1]; exact Kp.up (Or.inl (by simp))⟩⟩, Wo.at C0.ev hH hS ht hW⟩, hS.F ht⟩) hS.2.2 d_M_distance_50 (hlocks := C0.2.2.2.2.2.2)
      · exact absurd (b01_f (fun q => q hp9.2)) c_31
  · exact absurd ((b01_t ht9).symm.trans c_10) (by decide)

set_option maxHeartbeats 4000000 in
set_option maxRecDepth 100000 in
theorem k_M_distance1 (l : Launch) (G : Gl) (w : World) {y aT aX aY aU aV aR sz : Nat} {tc : Int32} {th lx ly ux uy rf : Nat → Int32} (hM : MAt G w y aT aX aY aU aV aR tc th lx ly ux uy sz rf) (b : Nat) (px py : Int32) (hb9 : b < 4096) (ht9 : th b = 0) :
    GnL l y_M_distance ws_M_distance 4 0 0 G w [.ref y, .int (nI b), .int px, .int py] (fun r w1 => r = 0 ∧ MDo G w w1 y aT aX aY aU aV aR 1 th lx ly ux uy sz rf) := by
  refine met_ent (by decide +kernel) (Nat.le_of_ble_eq_true rfl) (fun p e s m below meth c ls C0 hr hin hH hl => ?_)
  have hx := C0.1
  have hb := C0.2.1
  have hS : va_S (gA G) s.heap s.heap [] := va_S.rf
  have hA : ∀ q : Nat, s.heap.size ≤ q → gA G q := fun q h => Nat.le_trans C0.ev.2.2.2.2.2.2.2.2.2.2.2.2 h
  have hl : lv_has ls 4 [(0, .ref y), (1, .int (nI b)), (2, .int px), (3, .int py)] := hl
  obtain ⟨hY, hT, hX, hYy, hU9, hV, hR, hDi⟩ := id hM
  obtain ⟨n_TX, n_TY, n_TU, n_TV, n_TR, n_XY, n_XU, n_XV, n_XR, n_YU, n_YV, n_YR, n_UV, n_UR, n_VR⟩ := id hDi
  refine lv_aload_n hx hb d_M_distance_0 rfl (lv_at hl 0 rfl) ?_
  refine lv_iconst (v := 0) hx hb d_M_distance_1 (by decide) ?_
  refine pf_M_29 C0 hH hS hY rfl rfl (Nat.le_of_ble_eq_true rfl) d_M_distance_2 (fun H locs hH hS => ?_)
  obtain ⟨w1, ew1⟩ : ∃ z : World, z = va_up w y (some (.inr (3, [.int 0, .ref aT, .ref aX, .ref aY, .ref aU, .ref aV, .int (nI sz), .ref aR]))) := ⟨_, rfl⟩
  have hH : Hw G w1 H := by rw [ew1]; exact hH
  have hw1_aT : w1 aT = some (.inl (G.2.1.2.2.1, 4096, .inl th)) := by rw [ew1, va_up_ne _ _ (wne hT hY (by simp))]; exact hT
  have hw1_aX : w1 aX = some (.inl (G.2.1.1, 4096, .inl lx)) := by rw [ew1, va_up_ne _ _ (wne hX hY (by simp))]; exact hX
  have hw1_aY : w1 aY = some (.inl (G.2.1.1, 4096, .inl ly)) := by rw [ew1, va_up_ne _ _ (wne hYy hY (by simp))]; exact hYy
  have hw1_aU : w1 aU = some (.inl (G.2.1.1, 4096, .inl ux)) := by rw [ew1, va_up_ne _ _ (wne hU9 hY (by simp))]; exact hU9
  have hw1_aV : w1 aV = some (.inl (G.2.1.1, 4096, .inl uy)) := by rw [ew1, va_up_ne _ _ (wne hV hY (by simp))]; exact hV
  have hw1_aR : w1 aR = some (.inl (G.2.1.1, 4096, .inl rf)) := by rw [ew1, va_up_ne _ _ (wne hR hY (by simp))]; exact hR
  have hw1_y : w1 y = some (.inr (3, [.int 0, .ref aT, .ref aX, .ref aY, .ref aU, .ref aV, .int (nI sz), .ref aR])) := by rw [ew1]; exact va_up_self _ _ _
  refine lv_aload_n hx hb d_M_distance_5 rfl (lv_at hl 0 rfl) ?_
  refine lv_iload_n hx hb d_M_distance_6 rfl (lv_at hl 1 rfl) ?_
  have hM1 : MAt G w1 y aT aX aY aU aV aR 0 th lx ly ux uy sz rf := ⟨hw1_y, hw1_aT, hw1_aX, hw1_aY, hw1_aU, hw1_aV, hw1_aR, hDi⟩
  refine pu_v (runV C0 (k_M_isThere l G w1 hM1 b hb9) (cs_M_78 C0 ⟨Nat.le_of_ble_eq_true rfl, Nat.le_of_ble_eq_true rfl⟩) hH hS (hd_recv C0.hK hH rfl hw1_y) rfl hl.1 rfl (lv_room (Nat.le_of_ble_eq_true rfl)) d_M_distance_7 ⟨by show _ ≤ 0; omega, by show _ ≤ 0; omega⟩) ?_
  refine lv_if_ne (tgt := 20) hx hb d_M_distance_10 (by decide) (fun c_10 => ?_) (fun c_10 => ?_)
  · exact absurd (b01_f (fun q => q ht9)) c_10
  · refine lv_aload_n hx hb d_M_distance_13 rfl (lv_at hl 0 rfl) ?_
    refine lv_iconst (v := 1) hx hb d_M_distance_14 (by decide) ?_
    refine gn_i (runV C0 (k_M_fail l G w1 1 hw1_y) (cs_M_43 C0 ⟨Nat.le_of_ble_eq_true rfl, Nat.le_of_ble_eq_true rfl⟩) hH hS (hd_recv C0.hK hH rfl hw1_y) rfl hl.1 rfl (lv_room (Nat.le_of_ble_eq_true rfl)) d_M_distance_15 ⟨by show _ ≤ 0; omega, by show _ ≤ 0; omega⟩) hS (fun r2 w2 H locs hp2 hH hS => ?_)
    obtain ⟨rfl, ew2⟩ := hp2
    have hF9 := (show MAt G w1 y aT aX aY aU aV aR 0 th lx ly ux uy sz rf from ⟨hw1_y, hw1_aT, hw1_aX, hw1_aY, hw1_aU, hw1_aV, hw1_aR, hDi⟩).tc ew2
    have hK9 : Kp w w2 [y, aT, aX, aY, aU, aV, aR] := by rw [ew2, ew1]; exact (Kp.up (Or.inl (by simp))).ups (Or.inl (by simp))
    refine lv_i2l hx hb d_M_distance_18 rfl ?_
    refine W.widen (k := 0) (n := 0) (by omega) (by omega) ?_
    exact W.lret hx hb hr (fun t ht hW => ⟨⟨(0).toInt64, w2, rfl, ⟨by decide, hF9, hK9⟩, Wo.at C0.ev hH hS ht hW⟩, hS.F ht⟩) hS.2.2 d_M_distance_19 (hlocks := C0.2.2.2.2.2.2)

set_option maxHeartbeats 4000000 in
set_option maxRecDepth 100000 in
theorem k_M_distance2 (l : Launch) (G : Gl) (w : World) {y aT aX aY aU aV aR sz : Nat} {tc : Int32} {th lx ly ux uy rf : Nat → Int32} (hM : MAt G w y aT aX aY aU aV aR tc th lx ly ux uy sz rf) (n px py : Int32) (hn9 : ¬ okN n) :
    GnL l y_M_distance ws_M_distance 4 0 0 G w [.ref y, .int n, .int px, .int py] (fun r w1 => r = 0 ∧ MDo G w w1 y aT aX aY aU aV aR 1 th lx ly ux uy sz rf) := by
  refine met_ent (by decide +kernel) (Nat.le_of_ble_eq_true rfl) (fun p e s m below meth c ls C0 hr hin hH hl => ?_)
  have hx := C0.1
  have hb := C0.2.1
  have hS : va_S (gA G) s.heap s.heap [] := va_S.rf
  have hA : ∀ q : Nat, s.heap.size ≤ q → gA G q := fun q h => Nat.le_trans C0.ev.2.2.2.2.2.2.2.2.2.2.2.2 h
  have hl : lv_has ls 4 [(0, .ref y), (1, .int n), (2, .int px), (3, .int py)] := hl
  obtain ⟨hY, hT, hX, hYy, hU9, hV, hR, hDi⟩ := id hM
  obtain ⟨n_TX, n_TY, n_TU, n_TV, n_TR, n_XY, n_XU, n_XV, n_XR, n_YU, n_YV, n_YR, n_UV, n_UR, n_VR⟩ := id hDi
  refine lv_aload_n hx hb d_M_distance_0 rfl (lv_at hl 0 rfl) ?_
  refine lv_iconst (v := 0) hx hb d_M_distance_1 (by decide) ?_
  refine pf_M_29 C0 hH hS hY rfl rfl (Nat.le_of_ble_eq_true rfl) d_M_distance_2 (fun H locs hH hS => ?_)
  obtain ⟨w1, ew1⟩ : ∃ z : World, z = va_up w y (some (.inr (3, [.int 0, .ref aT, .ref aX, .ref aY, .ref aU, .ref aV, .int (nI sz), .ref aR]))) := ⟨_, rfl⟩
  have hH : Hw G w1 H := by rw [ew1]; exact hH
  have hw1_aT : w1 aT = some (.inl (G.2.1.2.2.1, 4096, .inl th)) := by rw [ew1, va_up_ne _ _ (wne hT hY (by simp))]; exact hT
  have hw1_aX : w1 aX = some (.inl (G.2.1.1, 4096, .inl lx)) := by rw [ew1, va_up_ne _ _ (wne hX hY (by simp))]; exact hX
  have hw1_aY : w1 aY = some (.inl (G.2.1.1, 4096, .inl ly)) := by rw [ew1, va_up_ne _ _ (wne hYy hY (by simp))]; exact hYy
  have hw1_aU : w1 aU = some (.inl (G.2.1.1, 4096, .inl ux)) := by rw [ew1, va_up_ne _ _ (wne hU9 hY (by simp))]; exact hU9
  have hw1_aV : w1 aV = some (.inl (G.2.1.1, 4096, .inl uy)) := by rw [ew1, va_up_ne _ _ (wne hV hY (by simp))]; exact hV
  have hw1_aR : w1 aR = some (.inl (G.2.1.1, 4096, .inl rf)) := by rw [ew1, va_up_ne _ _ (wne hR hY (by simp))]; exact hR
  have hw1_y : w1 y = some (.inr (3, [.int 0, .ref aT, .ref aX, .ref aY, .ref aU, .ref aV, .int (nI sz), .ref aR])) := by rw [ew1]; exact va_up_self _ _ _
  refine lv_aload_n hx hb d_M_distance_5 rfl (lv_at hl 0 rfl) ?_
  refine lv_iload_n hx hb d_M_distance_6 rfl (lv_at hl 1 rfl) ?_
  have hM1 : MAt G w1 y aT aX aY aU aV aR 0 th lx ly ux uy sz rf := ⟨hw1_y, hw1_aT, hw1_aX, hw1_aY, hw1_aU, hw1_aV, hw1_aR, hDi⟩
  refine pu_v (runV C0 (k_M_isThere0 l G w1 hM1 n hn9) (cs_M_78 C0 ⟨Nat.le_of_ble_eq_true rfl, Nat.le_of_ble_eq_true rfl⟩) hH hS (hd_recv C0.hK hH rfl hw1_y) rfl hl.1 rfl (lv_room (Nat.le_of_ble_eq_true rfl)) d_M_distance_7 ⟨by show _ ≤ 0; omega, by show _ ≤ 0; omega⟩) ?_
  refine lv_if_ne (tgt := 20) hx hb d_M_distance_10 (by decide) (fun c_10 => ?_) (fun c_10 => ?_)
  · exact absurd rfl c_10
  · refine lv_aload_n hx hb d_M_distance_13 rfl (lv_at hl 0 rfl) ?_
    refine lv_iconst (v := 1) hx hb d_M_distance_14 (by decide) ?_
    refine gn_i (runV C0 (k_M_fail l G w1 1 hw1_y) (cs_M_43 C0 ⟨Nat.le_of_ble_eq_true rfl, Nat.le_of_ble_eq_true rfl⟩) hH hS (hd_recv C0.hK hH rfl hw1_y) rfl hl.1 rfl (lv_room (Nat.le_of_ble_eq_true rfl)) d_M_distance_15 ⟨by show _ ≤ 0; omega, by show _ ≤ 0; omega⟩) hS (fun r2 w2 H locs hp2 hH hS => ?_)
    obtain ⟨rfl, ew2⟩ := hp2
    have hF9 := (show MAt G w1 y aT aX aY aU aV aR 0 th lx ly ux uy sz rf from ⟨hw1_y, hw1_aT, hw1_aX, hw1_aY, hw1_aU, hw1_aV, hw1_aR, hDi⟩).tc ew2
    have hK9 : Kp w w2 [y, aT, aX, aY, aU, aV, aR] := by rw [ew2, ew1]; exact (Kp.up (Or.inl (by simp))).ups (Or.inl (by simp))
    refine lv_i2l hx hb d_M_distance_18 rfl ?_
    refine W.widen (k := 0) (n := 0) (by omega) (by omega) ?_
    exact W.lret hx hb hr (fun t ht hW => ⟨⟨(0).toInt64, w2, rfl, ⟨by decide, hF9, hK9⟩, Wo.at C0.ev hH hS ht hW⟩, hS.F ht⟩) hS.2.2 d_M_distance_19 (hlocks := C0.2.2.2.2.2.2)

set_option maxHeartbeats 4000000 in
set_option maxRecDepth 100000 in
theorem k_M_distance3 (l : Launch) (G : Gl) (w : World) {y aT aX aY aU aV aR sz : Nat} {tc : Int32} {th lx ly ux uy rf : Nat → Int32} (hM : MAt G w y aT aX aY aU aV aR tc th lx ly ux uy sz rf) (b : Nat) (px py : Int32) (hb9 : b < 4096) (ht9 : th b ≠ 0) (hp9 : ¬ okP px py) :
    GnL l y_M_distance ws_M_distance 4 0 0 G w [.ref y, .int (nI b), .int px, .int py] (fun r w1 => r = 0 ∧ MDo G w w1 y aT aX aY aU aV aR 2 th lx ly ux uy sz rf) := by
  refine met_ent (by decide +kernel) (Nat.le_of_ble_eq_true rfl) (fun p e s m below meth c ls C0 hr hin hH hl => ?_)
  have hx := C0.1
  have hb := C0.2.1
  have hS : va_S (gA G) s.heap s.heap [] := va_S.rf
  have hA : ∀ q : Nat, s.heap.size ≤ q → gA G q := fun q h => Nat.le_trans C0.ev.2.2.2.2.2.2.2.2.2.2.2.2 h
  have hl : lv_has ls 4 [(0, .ref y), (1, .int (nI b)), (2, .int px), (3, .int py)] := hl
  obtain ⟨hY, hT, hX, hYy, hU9, hV, hR, hDi⟩ := id hM
  obtain ⟨n_TX, n_TY, n_TU, n_TV, n_TR, n_XY, n_XU, n_XV, n_XR, n_YU, n_YV, n_YR, n_UV, n_UR, n_VR⟩ := id hDi
  refine lv_aload_n hx hb d_M_distance_0 rfl (lv_at hl 0 rfl) ?_
  refine lv_iconst (v := 0) hx hb d_M_distance_1 (by decide) ?_
  refine pf_M_29 C0 hH hS hY rfl rfl (Nat.le_of_ble_eq_true rfl) d_M_distance_2 (fun H locs hH hS => ?_)
  obtain ⟨w1, ew1⟩ : ∃ z : World, z = va_up w y (some (.inr (3, [.int 0, .ref aT, .ref aX, .ref aY, .ref aU, .ref aV, .int (nI sz), .ref aR]))) := ⟨_, rfl⟩
  have hH : Hw G w1 H := by rw [ew1]; exact hH
  have hw1_aT : w1 aT = some (.inl (G.2.1.2.2.1, 4096, .inl th)) := by rw [ew1, va_up_ne _ _ (wne hT hY (by simp))]; exact hT
  have hw1_aX : w1 aX = some (.inl (G.2.1.1, 4096, .inl lx)) := by rw [ew1, va_up_ne _ _ (wne hX hY (by simp))]; exact hX
  have hw1_aY : w1 aY = some (.inl (G.2.1.1, 4096, .inl ly)) := by rw [ew1, va_up_ne _ _ (wne hYy hY (by simp))]; exact hYy
  have hw1_aU : w1 aU = some (.inl (G.2.1.1, 4096, .inl ux)) := by rw [ew1, va_up_ne _ _ (wne hU9 hY (by simp))]; exact hU9
  have hw1_aV : w1 aV = some (.inl (G.2.1.1, 4096, .inl uy)) := by rw [ew1, va_up_ne _ _ (wne hV hY (by simp))]; exact hV
  have hw1_aR : w1 aR = some (.inl (G.2.1.1, 4096, .inl rf)) := by rw [ew1, va_up_ne _ _ (wne hR hY (by simp))]; exact hR
  have hw1_y : w1 y = some (.inr (3, [.int 0, .ref aT, .ref aX, .ref aY, .ref aU, .ref aV, .int (nI sz), .ref aR])) := by rw [ew1]; exact va_up_self _ _ _
  refine lv_aload_n hx hb d_M_distance_5 rfl (lv_at hl 0 rfl) ?_
  refine lv_iload_n hx hb d_M_distance_6 rfl (lv_at hl 1 rfl) ?_
  have hM1 : MAt G w1 y aT aX aY aU aV aR 0 th lx ly ux uy sz rf := ⟨hw1_y, hw1_aT, hw1_aX, hw1_aY, hw1_aU, hw1_aV, hw1_aR, hDi⟩
  refine pu_v (runV C0 (k_M_isThere l G w1 hM1 b hb9) (cs_M_78 C0 ⟨Nat.le_of_ble_eq_true rfl, Nat.le_of_ble_eq_true rfl⟩) hH hS (hd_recv C0.hK hH rfl hw1_y) rfl hl.1 rfl (lv_room (Nat.le_of_ble_eq_true rfl)) d_M_distance_7 ⟨by show _ ≤ 0; omega, by show _ ≤ 0; omega⟩) ?_
  refine lv_if_ne (tgt := 20) hx hb d_M_distance_10 (by decide) (fun c_10 => ?_) (fun c_10 => ?_)
  · refine lv_iload_n hx hb d_M_distance_20 rfl (lv_at hl 2 rfl) ?_
    refine pu_v (runS C0 (k_M_isFar l G w1 px) (cs_M_39 C0 ⟨Nat.le_of_ble_eq_true rfl, Nat.le_of_ble_eq_true rfl⟩) hH hS rfl hl.1 rfl (lv_room (Nat.le_of_ble_eq_true rfl)) d_M_distance_21 ⟨by show _ ≤ 0; omega, by show _ ≤ 0; omega⟩) ?_
    refine lv_if_ne (tgt := 34) hx hb d_M_distance_24 (by decide) (fun c_24 => ?_) (fun c_24 => ?_)
    · refine lv_aload_n hx hb d_M_distance_34 rfl (lv_at hl 0 rfl) ?_
      refine lv_iconst (v := 2) hx hb d_M_distance_35 (by decide) ?_
      refine gn_i (runV C0 (k_M_fail l G w1 2 hw1_y) (cs_M_43 C0 ⟨Nat.le_of_ble_eq_true rfl, Nat.le_of_ble_eq_true rfl⟩) hH hS (hd_recv C0.hK hH rfl hw1_y) rfl hl.1 rfl (lv_room (Nat.le_of_ble_eq_true rfl)) d_M_distance_36 ⟨by show _ ≤ 0; omega, by show _ ≤ 0; omega⟩) hS (fun r2 w2 H locs hp2 hH hS => ?_)
      obtain ⟨rfl, ew2⟩ := hp2
      have hF9 := (show MAt G w1 y aT aX aY aU aV aR 0 th lx ly ux uy sz rf from ⟨hw1_y, hw1_aT, hw1_aX, hw1_aY, hw1_aU, hw1_aV, hw1_aR, hDi⟩).tc ew2
      have hK9 : Kp w w2 [y, aT, aX, aY, aU, aV, aR] := by rw [ew2, ew1]; exact (Kp.up (Or.inl (by simp))).ups (Or.inl (by simp))
      refine lv_i2l hx hb d_M_distance_39 rfl ?_
      refine lv_goto (tgt := 50) hx hb d_M_distance_40 (by decide) ?_
      refine W.widen (k := 0) (n := 0) (by omega) (by omega) ?_
      exact W.lret hx hb hr (fun t ht hW => ⟨⟨(0).toInt64, w2, rfl, ⟨by decide, hF9, hK9⟩, Wo.at C0.ev hH hS ht hW⟩, hS.F ht⟩) hS.2.2 d_M_distance_50 (hlocks := C0.2.2.2.2.2.2)
    · refine lv_iload_n hx hb d_M_distance_27 rfl (lv_at hl 3 rfl) ?_
      refine pu_v (runS C0 (k_M_isFar l G w1 py) (cs_M_39 C0 ⟨Nat.le_of_ble_eq_true rfl, Nat.le_of_ble_eq_true rfl⟩) hH hS rfl hl.1 rfl (lv_room (Nat.le_of_ble_eq_true rfl)) d_M_distance_28 ⟨by show _ ≤ 0; omega, by show _ ≤ 0; omega⟩) ?_
      refine lv_if_eq (tgt := 43) hx hb d_M_distance_31 (by decide) (fun c_31 => ?_) (fun c_31 => ?_)
      · exact absurd ⟨Classical.byContradiction (fun q => absurd ((b01_t q).symm.trans c_24) (by decide)), Classical.byContradiction (fun q => absurd ((b01_t q).symm.trans c_31) (by decide))⟩ hp9
      · refine lv_aload_n hx hb d_M_distance_34 rfl (lv_at hl 0 rfl) ?_
        refine lv_iconst (v := 2) hx hb d_M_distance_35 (by decide) ?_
        refine gn_i (runV C0 (k_M_fail l G w1 2 hw1_y) (cs_M_43 C0 ⟨Nat.le_of_ble_eq_true rfl, Nat.le_of_ble_eq_true rfl⟩) hH hS (hd_recv C0.hK hH rfl hw1_y) rfl hl.1 rfl (lv_room (Nat.le_of_ble_eq_true rfl)) d_M_distance_36 ⟨by show _ ≤ 0; omega, by show _ ≤ 0; omega⟩) hS (fun r3 w3 H locs hp3 hH hS => ?_)
        obtain ⟨rfl, ew3⟩ := hp3
        have hF9 := (show MAt G w1 y aT aX aY aU aV aR 0 th lx ly ux uy sz rf from ⟨hw1_y, hw1_aT, hw1_aX, hw1_aY, hw1_aU, hw1_aV, hw1_aR, hDi⟩).tc ew3
        have hK9 : Kp w w3 [y, aT, aX, aY, aU, aV, aR] := by rw [ew3, ew1]; exact (Kp.up (Or.inl (by simp))).ups (Or.inl (by simp))
        refine lv_i2l hx hb d_M_distance_39 rfl ?_
        refine lv_goto (tgt := 50) hx hb d_M_distance_40 (by decide) ?_
        refine W.widen (k := 0) (n := 0) (by omega) (by omega) ?_
        exact W.lret hx hb hr (fun t ht hW => ⟨⟨(0).toInt64, w3, rfl, ⟨by decide, hF9, hK9⟩, Wo.at C0.ev hH hS ht hW⟩, hS.F ht⟩) hS.2.2 d_M_distance_50 (hlocks := C0.2.2.2.2.2.2)
  · exact absurd ((b01_t ht9).symm.trans c_10) (by decide)
