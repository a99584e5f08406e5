/-! the law's helpers, with their tables -/
section WR
variable {l : Launch} {y : MethodName} {cc : ByteArray} {maxL : Nat} {ret : Option FieldType} {hh : List (Nat × Nat × Nat × Nat)} {k mc ms : Nat} {G : Gl} {w : World} {as : List Value}
theorem wr_ent {Qc : Array Value → State → Outcome → State → Prop} {free : Addr → Prop} (hy : plainName y.cls = true) (hlen : (lg_sl as).length ≤ maxL)
    (body : ∀ (p : Program) (e : Env) (s : State) (m : MethodId) (below : List Frame) (meth : Method) (c : Code) (ls : Array Slot), Cx G p s m as.toArray c cc maxL y.cls meth → c.exceptionTable.toList = tableOf hh → meth.sig.returnType = ret → Hw G w s.heap → lv_has ls maxL (lv_args 0 as) →
      W p l e (rmK k mc ms) s m as.toArray below meth c s.heap [] 0 0 (MQ below Qc as.toArray s mc ms free) (F0 m 0 ls [])) :
    Met l y (.codeWith y cc maxL ret hh :: big) (rmK k mc ms) (va_Pc as (Wo G w)) Qc mc ms free := by
  refine va_MetW (cc := cc) (maxL := maxL) (ret := ret) (hh := hh) hy rfl ?_
  intro p e s m args below meth c s₁ B hml hv
  obtain ⟨rfl, hE, hH⟩ := hv
  have hts := atoms_spec (ws := .codeWith y cc maxL ret hh :: big) B.pre
  have hl := lv_entry as hlen
  rw [lg_entry_eq]
  exact body p e s m below meth c _ ⟨B.exec, B.bytes, hml, findClass_of_methodNamed B.named, fun w hw => hts w (List.mem_cons_of_mem _ hw), hE, B.notSynchronized⟩ (vx_table (x := y) B (hts _ List.mem_cons_self)) B.returns hH hl
theorem va_S_more {A : Nat → Prop} {H0 H H1 : Heap} {locs : List Loc} (hS : va_S A H0 H locs) (h1 : H.size ≤ H1.size) (h2 : ∀ q : Nat, q < H.size → H1[q]? = H[q]?) : va_S A H0 H1 locs :=
  ⟨Nat.le_trans hS.1 h1, fun q a b => by rw [h2 q (Nat.lt_of_lt_of_le a hS.1)]; exact hS.2.1 q a b, hS.2.2⟩
end WR

set_option maxHeartbeats 4000000 in
set_option maxRecDepth 100000 in
theorem k_L_put (l : Launch) (G : Gl) (w : World) {x L F Gd o : Nat} {nF : Int32} {d : Nat → Int64} (hB : w x = some (.inr (2, [.ref L, .ref F, .int nF, .ref Gd]))) (n lx ly hx1 hy1 : Int32) {P : Int32 → World → Prop} (hO : w o = some (.inl (G.2.1.2.1, 1, .inr (.inl d)))) (hI : GnI l y_B_put ws_B_put 6 2 6200 G w [.ref x, .int n, .int lx, .int ly, .int hx1, .int hy1] P) (hk : ∀ (r : Int32) (w1 : World), P r w1 → w1 o = some (.inl (G.2.1.2.1, 1, .inr (.inl d)))) :
    GnI l y_L_put ws_L_put 9 2 6200 G w [.ref x, .int n, .int lx, .int ly, .int hx1, .int hy1, .ref o] (fun r0 w2 => r0 = 0 ∧ ∃ (r : Int32) (w1 : World), P r w1 ∧ w2 = va_up w1 o (some (.inl (G.2.1.2.1, 1, .inr (.inl (vp_updL d 0 (if r = 0 then (0 : Int64) else 1))))))) := by
  refine wr_ent (by decide +kernel) (Nat.le_of_ble_eq_true rfl) (fun p e s m below meth c ls C0 htab hr hH hl => ?_)
  have hx := C0.1
  have hb := C0.2.1
  have hS : va_S (gA G) s.heap s.heap [] := va_S.rf
  have hl : lv_has ls 8 [(0, .ref x), (1, .int n), (2, .int lx), (3, .int ly), (4, .int hx1), (5, .int hy1), (6, .ref o)] := hl
  refine lv_aload hx hb d_L_put_0 (lv_at hl 6 rfl) ?_
  refine lv_iconst (v := 0) hx hb d_L_put_2 (by decide) ?_
  refine lv_aload_n hx hb d_L_put_3 rfl (lv_at hl 0 rfl) ?_
  refine lv_iload_n hx hb d_L_put_4 rfl (lv_at hl 1 rfl) ?_
  refine lv_iload_n hx hb d_L_put_5 rfl (lv_at hl 2 rfl) ?_
  refine lv_iload_n hx hb d_L_put_6 rfl (lv_at hl 3 rfl) ?_
  refine lv_iload hx hb d_L_put_7 (lv_at hl 4 rfl) ?_
  refine lv_iload hx hb d_L_put_9 (lv_at hl 5 rfl) ?_
  refine gn_i (runV C0 (hI) (cs_L_7 C0 ⟨Nat.le_of_ble_eq_true rfl, Nat.le_of_ble_eq_true rfl⟩) hH hS (hd_recv C0.hK hH rfl hB) rfl hl.1 rfl (lv_room (Nat.le_of_ble_eq_true rfl)) d_L_put_11 ⟨by show _ ≤ 2; omega, by show _ ≤ 6200; omega⟩) hS (fun r1 w1 H locs hp1 hH hS => ?_)
  have hO1 := hk _ _ hp1
  refine lv_if_eq (tgt := 21) hx hb d_L_put_14 (by decide) (fun c_14 => ?_) (fun c_14 => ?_)
  · refine lv_lconst (v := 0) hx hb d_L_put_21 (by decide) ?_
    refine hd_last hx hb C0.hK hH hS 1 hO1 rfl (show vp_in (nI 0) 1 from vp_in_nI (by decide) (by decide)) d_L_put_22 (fun H locs hH hS => ?_)
    rw [sb_cl0] at hH
    refine lv_goto (tgt := 34) hx hb d_L_put_23 (by decide) ?_
    refine lv_iconst (v := 0) hx hb d_L_put_34 (by decide) ?_
    refine W.widen (k := 2) (n := 6200) (by omega) (by omega) ?_
    exact W.iret hx hb hr (fun t ht hW => ⟨⟨0, _, rfl, ⟨rfl, r1, w1, hp1, by rw [if_pos c_14]⟩, Wo.at C0.ev hH hS ht hW⟩, hS.F ht⟩) hS.2.2 d_L_put_35 (hlocks := C0.2.2.2.2.2.2)
  · refine lv_lconst (v := 1) hx hb d_L_put_17 (by decide) ?_
    refine lv_goto (tgt := 22) hx hb d_L_put_18 (by decide) ?_
    refine hd_last hx hb C0.hK hH hS 1 hO1 rfl (show vp_in (nI 0) 1 from vp_in_nI (by decide) (by decide)) d_L_put_22 (fun H locs hH hS => ?_)
    rw [sb_cl0] at hH
    refine lv_goto (tgt := 34) hx hb d_L_put_23 (by decide) ?_
    refine lv_iconst (v := 0) hx hb d_L_put_34 (by decide) ?_
    refine W.widen (k := 2) (n := 6200) (by omega) (by omega) ?_
    exact W.iret hx hb hr (fun t ht hW => ⟨⟨0, _, rfl, ⟨rfl, r1, w1, hp1, by rw [if_neg c_14]⟩, Wo.at C0.ev hH hS ht hW⟩, hS.F ht⟩) hS.2.2 d_L_put_35 (hlocks := C0.2.2.2.2.2.2)

set_option maxHeartbeats 4000000 in
set_option maxRecDepth 100000 in
theorem k_L_take (l : Launch) (G : Gl) (w : World) {x L F Gd o : Nat} {nF : Int32} {d : Nat → Int64} (hB : w x = some (.inr (2, [.ref L, .ref F, .int nF, .ref Gd]))) (n : Int32) {P : Int32 → World → Prop} (hO : w o = some (.inl (G.2.1.2.1, 1, .inr (.inl d)))) (hI : GnI l y_B_take ws_B_take 6 0 0 G w [.ref x, .int n] P) (hk : ∀ (r : Int32) (w1 : World), P r w1 → w1 o = some (.inl (G.2.1.2.1, 1, .inr (.inl d)))) :
    GnI l y_L_take ws_L_take 9 0 0 G w [.ref x, .int n, .ref o] (fun r0 w2 => r0 = 0 ∧ ∃ (r : Int32) (w1 : World), P r w1 ∧ w2 = va_up w1 o (some (.inl (G.2.1.2.1, 1, .inr (.inl (vp_updL d 0 (if r = 0 then (0 : Int64) else 1))))))) := by
  refine wr_ent (by decide +kernel) (Nat.le_of_ble_eq_true rfl) (fun p e s m below meth c ls C0 htab hr hH hl => ?_)
  have hx := C0.1
  have hb := C0.2.1
  have hS : va_S (gA G) s.heap s.heap [] := va_S.rf
  have hl : lv_has ls 4 [(0, .ref x), (1, .int n), (2, .ref o)] := hl
  refine lv_aload_n hx hb d_L_take_0 rfl (lv_at hl 2 rfl) ?_
  refine lv_iconst (v := 0) hx hb d_L_take_1 (by decide) ?_
  refine lv_aload_n hx hb d_L_take_2 rfl (lv_at hl 0 rfl) ?_
  refine lv_iload_n hx hb d_L_take_3 rfl (lv_at hl 1 rfl) ?_
  refine gn_i (runV C0 (hI) (cs_L_17 C0 ⟨Nat.le_of_ble_eq_true rfl, Nat.le_of_ble_eq_true rfl⟩) hH hS (hd_recv C0.hK hH rfl hB) rfl hl.1 rfl (lv_room (Nat.le_of_ble_eq_true rfl)) d_L_take_4 ⟨by show _ ≤ 0; omega, by show _ ≤ 0; omega⟩) hS (fun r1 w1 H locs hp1 hH hS => ?_)
  have hO1 := hk _ _ hp1
  refine lv_if_eq (tgt := 14) hx hb d_L_take_7 (by decide) (fun c_7 => ?_) (fun c_7 => ?_)
  · refine lv_lconst (v := 0) hx hb d_L_take_14 (by decide) ?_
    refine hd_last hx hb C0.hK hH hS 1 hO1 rfl (show vp_in (nI 0) 1 from vp_in_nI (by decide) (by decide)) d_L_take_15 (fun H locs hH hS => ?_)
    rw [sb_cl0] at hH
    refine lv_goto (tgt := 22) hx hb d_L_take_16 (by decide) ?_
    refine lv_iconst (v := 0) hx hb d_L_take_22 (by decide) ?_
    refine W.widen (k := 0) (n := 0) (by omega) (by omega) ?_
    exact W.iret hx hb hr (fun t ht hW => ⟨⟨0, _, rfl, ⟨rfl, r1, w1, hp1, by rw [if_pos c_7]⟩, Wo.at C0.ev hH hS ht hW⟩, hS.F ht⟩) hS.2.2 d_L_take_23 (hlocks := C0.2.2.2.2.2.2)
  · refine lv_lconst (v := 1) hx hb d_L_take_10 (by decide) ?_
    refine lv_goto (tgt := 15) hx hb d_L_take_11 (by decide) ?_
    refine hd_last hx hb C0.hK hH hS 1 hO1 rfl (show vp_in (nI 0) 1 from vp_in_nI (by decide) (by decide)) d_L_take_15 (fun H locs hH hS => ?_)
    rw [sb_cl0] at hH
    refine lv_goto (tgt := 22) hx hb d_L_take_16 (by decide) ?_
    refine lv_iconst (v := 0) hx hb d_L_take_22 (by decide) ?_
    refine W.widen (k := 0) (n := 0) (by omega) (by omega) ?_
    exact W.iret hx hb hr (fun t ht hW => ⟨⟨0, _, rfl, ⟨rfl, r1, w1, hp1, by rw [if_neg c_7]⟩, Wo.at C0.ev hH hS ht hW⟩, hS.F ht⟩) hS.2.2 d_L_take_23 (hlocks := C0.2.2.2.2.2.2)

set_option maxHeartbeats 4000000 in
set_option maxRecDepth 100000 in
theorem k_L_find (l : Launch) (G : Gl) (w : World) {x L F Gd o : Nat} {nF : Int32} {d : Nat → Int64} (hB : w x = some (.inr (2, [.ref L, .ref F, .int nF, .ref Gd]))) (k lx ly hx1 hy1 : Int32) {P : Int32 → World → Prop} (hO : w o = some (.inl (G.2.1.2.1, 1, .inr (.inl d)))) (hI : GnI l y_B_find ws_B_find 6 260 12300 G w [.ref x, .int k, .int lx, .int ly, .int hx1, .int hy1] P) (hk : ∀ (r : Int32) (w1 : World), P r w1 → w1 o = some (.inl (G.2.1.2.1, 1, .inr (.inl d)))) :
    GnI l y_L_find ws_L_find 9 260 12300 G w [.ref x, .int k, .int lx, .int ly, .int hx1, .int hy1, .ref o] (fun r0 w2 => r0 = 0 ∧ ∃ (r : Int32) (w1 : World), P r w1 ∧ w2 = va_up w1 o (some (.inl (G.2.1.2.1, 1, .inr (.inl (vp_updL d 0 r.toInt64)))))) := by
  refine wr_ent (by decide +kernel) (Nat.le_of_ble_eq_true rfl) (fun p e s m below meth c ls C0 htab hr hH hl => ?_)
  have hx := C0.1
  have hb := C0.2.1
  have hS : va_S (gA G) s.heap s.heap [] := va_S.rf
  have hl : lv_has ls 8 [(0, .ref x), (1, .int k), (2, .int lx), (3, .int ly), (4, .int hx1), (5, .int hy1), (6, .ref o)] := hl
  refine lv_aload hx hb d_L_find_0 (lv_at hl 6 rfl) ?_
  refine lv_iconst (v := 0) hx hb d_L_find_2 (by decide) ?_
  refine lv_aload_n hx hb d_L_find_3 rfl (lv_at hl 0 rfl) ?_
  refine lv_iload_n hx hb d_L_find_4 rfl (lv_at hl 1 rfl) ?_
  refine lv_iload_n hx hb d_L_find_5 rfl (lv_at hl 2 rfl) ?_
  refine lv_iload_n hx hb d_L_find_6 rfl (lv_at hl 3 rfl) ?_
  refine lv_iload hx hb d_L_find_7 (lv_at hl 4 rfl) ?_
  refine lv_iload hx hb d_L_find_9 (lv_at hl 5 rfl) ?_
  refine gn_i (runV C0 (hI) (cs_L_21 C0 ⟨Nat.le_of_ble_eq_true rfl, Nat.le_of_ble_eq_true rfl⟩) hH hS (hd_recv C0.hK hH rfl hB) rfl hl.1 rfl (lv_room (Nat.le_of_ble_eq_true rfl)) d_L_find_11 ⟨by show _ ≤ 260; omega, by show _ ≤ 12300; omega⟩) hS (fun r1 w1 H locs hp1 hH hS => ?_)
  have hO1 := hk _ _ hp1
  refine lv_i2l hx hb d_L_find_14 rfl ?_
  refine hd_last hx hb C0.hK hH hS 1 hO1 rfl (show vp_in (nI 0) 1 from vp_in_nI (by decide) (by decide)) d_L_find_15 (fun H locs hH hS => ?_)
  rw [sb_cl0] at hH
  refine lv_goto (tgt := 23) hx hb d_L_find_16 (by decide) ?_
  refine lv_iconst (v := 0) hx hb d_L_find_23 (by decide) ?_
  refine W.widen (k := 260) (n := 12300) (by omega) (by omega) ?_
  exact W.iret hx hb hr (fun t ht hW => ⟨⟨0, _, rfl, ⟨rfl, r1, w1, hp1, rfl⟩, Wo.at C0.ev hH hS ht hW⟩, hS.F ht⟩) hS.2.2 d_L_find_24 (hlocks := C0.2.2.2.2.2.2)

set_option maxHeartbeats 4000000 in
set_option maxRecDepth 100000 in
theorem k_L_nearest (l : Launch) (G : Gl) (w : World) {x L F Gd o : Nat} {nF : Int32} {d : Nat → Int64} (hB : w x = some (.inr (2, [.ref L, .ref F, .int nF, .ref Gd]))) (px py n : Int32) {P : Int32 → World → Prop} (hO : w o = some (.inl (G.2.1.2.1, 1, .inr (.inl d)))) (hI : GnI l y_B_nearest ws_B_nearest 6 260 12300 G w [.ref x, .int px, .int py, .int n] P) (hk : ∀ (r : Int32) (w1 : World), P r w1 → w1 o = some (.inl (G.2.1.2.1, 1, .inr (.inl d)))) :
    GnI l y_L_nearest ws_L_nearest 9 260 12300 G w [.ref x, .int px, .int py, .int n, .ref o] (fun r0 w2 => r0 = 0 ∧ ∃ (r : Int32) (w1 : World), P r w1 ∧ w2 = va_up w1 o (some (.inl (G.2.1.2.1, 1, .inr (.inl (vp_updL d 0 r.toInt64)))))) := by
  refine wr_ent (by decide +kernel) (Nat.le_of_ble_eq_true rfl) (fun p e s m below meth c ls C0 htab hr hH hl => ?_)
  have hx := C0.1
  have hb := C0.2.1
  have hS : va_S (gA G) s.heap s.heap [] := va_S.rf
  have hl : lv_has ls 6 [(0, .ref x), (1, .int px), (2, .int py), (3, .int n), (4, .ref o)] := hl
  refine lv_aload hx hb d_L_nearest_0 (lv_at hl 4 rfl) ?_
  refine lv_iconst (v := 0) hx hb d_L_nearest_2 (by decide) ?_
  refine lv_aload_n hx hb d_L_nearest_3 rfl (lv_at hl 0 rfl) ?_
  refine lv_iload_n hx hb d_L_nearest_4 rfl (lv_at hl 1 rfl) ?_
  refine lv_iload_n hx hb d_L_nearest_5 rfl (lv_at hl 2 rfl) ?_
  refine lv_iload_n hx hb d_L_nearest_6 rfl (lv_at hl 3 rfl) ?_
  refine gn_i (runV C0 (hI) (cs_L_25 C0 ⟨Nat.le_of_ble_eq_true rfl, Nat.le_of_ble_eq_true rfl⟩) hH hS (hd_recv C0.hK hH rfl hB) rfl hl.1 rfl (lv_room (Nat.le_of_ble_eq_true rfl)) d_L_nearest_7 ⟨by show _ ≤ 260; omega, by show _ ≤ 12300; omega⟩) hS (fun r1 w1 H locs hp1 hH hS => ?_)
  have hO1 := hk _ _ hp1
  refine lv_i2l hx hb d_L_nearest_10 rfl ?_
  refine hd_last hx hb C0.hK hH hS 1 hO1 rfl (show vp_in (nI 0) 1 from vp_in_nI (by decide) (by decide)) d_L_nearest_11 (fun H locs hH hS => ?_)
  rw [sb_cl0] at hH
  refine lv_goto (tgt := 19) hx hb d_L_nearest_12 (by decide) ?_
  refine lv_iconst (v := 0) hx hb d_L_nearest_19 (by decide) ?_
  refine W.widen (k := 260) (n := 12300) (by omega) (by omega) ?_
  exact W.iret hx hb hr (fun t ht hW => ⟨⟨0, _, rfl, ⟨rfl, r1, w1, hp1, rfl⟩, Wo.at C0.ev hH hS ht hW⟩, hS.F ht⟩) hS.2.2 d_L_nearest_20 (hlocks := C0.2.2.2.2.2.2)

set_option maxHeartbeats 4000000 in
set_option maxRecDepth 100000 in
theorem k_L_distance (l : Launch) (G : Gl) (w : World) {x L F Gd o : Nat} {nF : Int32} {d : Nat → Int64} (hB : w x = some (.inr (2, [.ref L, .ref F, .int nF, .ref Gd]))) (n px py : Int32) (v : Int64) (hO : w o = some (.inl (G.2.1.2.1, 1, .inr (.inl d)))) (hI : PuM l y_B_distance ws_B_distance 5 G w [.ref x, .int n, .int px, .int py] (some (.long v))) :
    GnI l y_L_distance ws_L_distance 9 0 0 G w [.ref x, .int n, .int px, .int py, .ref o] (fun r0 w2 => r0 = 0 ∧ w2 = va_up w o (some (.inl (G.2.1.2.1, 1, .inr (.inl (vp_updL d 0 v)))))) := by
  refine wr_ent (by decide +kernel) (Nat.le_of_ble_eq_true rfl) (fun p e s m below meth c ls C0 htab hr hH hl => ?_)
  have hx := C0.1
  have hb := C0.2.1
  have hS : va_S (gA G) s.heap s.heap [] := va_S.rf
  have hl : lv_has ls 6 [(0, .ref x), (1, .int n), (2, .int px), (3, .int py), (4, .ref o)] := hl
  refine lv_aload hx hb d_L_distance_0 (lv_at hl 4 rfl) ?_
  refine lv_iconst (v := 0) hx hb d_L_distance_2 (by decide) ?_
  refine lv_aload_n hx hb d_L_distance_3 rfl (lv_at hl 0 rfl) ?_
  refine lv_iload_n hx hb d_L_distance_4 rfl (lv_at hl 1 rfl) ?_
  refine lv_iload_n hx hb d_L_distance_5 rfl (lv_at hl 2 rfl) ?_
  refine lv_iload_n hx hb d_L_distance_6 rfl (lv_at hl 3 rfl) ?_
  refine pu_v (runV C0 (hI) (cs_L_29 C0 ⟨Nat.le_of_ble_eq_true rfl, Nat.le_of_ble_eq_true rfl⟩) hH hS (hd_recv C0.hK hH rfl hB) rfl hl.1 rfl (lv_room (Nat.le_of_ble_eq_true rfl)) d_L_distance_7 ⟨by show _ ≤ 0; omega, by show _ ≤ 0; omega⟩) ?_
  refine hd_last hx hb C0.hK hH hS 1 hO rfl (show vp_in (nI 0) 1 from vp_in_nI (by decide) (by decide)) d_L_distance_10 (fun H locs hH hS => ?_)
  rw [sb_cl0] at hH
  refine lv_goto (tgt := 22) hx hb d_L_distance_11 (by decide) ?_
  refine lv_iconst (v := 0) hx hb d_L_distance_22 (by decide) ?_
  exact W.iret hx hb hr (fun t ht hW => ⟨⟨0, _, rfl, ⟨rfl, rfl⟩, Wo.at C0.ev hH hS ht hW⟩, hS.F ht⟩) hS.2.2 d_L_distance_23 (hlocks := C0.2.2.2.2.2.2)

set_option maxHeartbeats 4000000 in
set_option maxRecDepth 100000 in
theorem k_L_bounds (l : Launch) (G : Gl) (w : World) {x L F Gd o : Nat} {nF : Int32} {d : Nat → Int64} (hB : w x = some (.inr (2, [.ref L, .ref F, .int nF, .ref Gd]))) (z : Int32) (v : Int32) (hO : w o = some (.inl (G.2.1.2.1, 1, .inr (.inl d)))) (hI : PuM l y_B_bounds ws_B_bounds 4 G w [.ref x, .int z] (some (.int v))) :
    GnI l y_L_bounds ws_L_bounds 9 0 0 G w [.ref x, .int z, .ref o] (fun r0 w2 => r0 = 0 ∧ w2 = va_up w o (some (.inl (G.2.1.2.1, 1, .inr (.inl (vp_updL d 0 v.toInt64)))))) := by
  refine wr_ent (by decide +kernel) (Nat.le_of_ble_eq_true rfl) (fun p e s m below meth c ls C0 htab hr hH hl => ?_)
  have hx := C0.1
  have hb := C0.2.1
  have hS : va_S (gA G) s.heap s.heap [] := va_S.rf
  have hl : lv_has ls 4 [(0, .ref x), (1, .int z), (2, .ref o)] := hl
  refine lv_aload_n hx hb d_L_bounds_0 rfl (lv_at hl 2 rfl) ?_
  refine lv_iconst (v := 0) hx hb d_L_bounds_1 (by decide) ?_
  refine lv_aload_n hx hb d_L_bounds_2 rfl (lv_at hl 0 rfl) ?_
  refine lv_iload_n hx hb d_L_bounds_3 rfl (lv_at hl 1 rfl) ?_
  refine pu_v (runV C0 (hI) (cs_L_33 C0 ⟨Nat.le_of_ble_eq_true rfl, Nat.le_of_ble_eq_true rfl⟩) hH hS (hd_recv C0.hK hH rfl hB) rfl hl.1 rfl (lv_room (Nat.le_of_ble_eq_true rfl)) d_L_bounds_4 ⟨by show _ ≤ 0; omega, by show _ ≤ 0; omega⟩) ?_
  refine lv_i2l hx hb d_L_bounds_7 rfl ?_
  refine hd_last hx hb C0.hK hH hS 1 hO rfl (show vp_in (nI 0) 1 from vp_in_nI (by decide) (by decide)) d_L_bounds_8 (fun H locs hH hS => ?_)
  rw [sb_cl0] at hH
  refine lv_goto (tgt := 18) hx hb d_L_bounds_9 (by decide) ?_
  refine lv_iconst (v := 0) hx hb d_L_bounds_18 (by decide) ?_
  exact W.iret hx hb hr (fun t ht hW => ⟨⟨0, _, rfl, ⟨rfl, rfl⟩, Wo.at C0.ev hH hS ht hW⟩, hS.F ht⟩) hS.2.2 d_L_bounds_19 (hlocks := C0.2.2.2.2.2.2)

set_option maxHeartbeats 4000000 in
set_option maxRecDepth 100000 in
theorem k_L_result (l : Launch) (G : Gl) (w : World) {x L F Gd o : Nat} {nF : Int32} {d : Nat → Int64} (hB : w x = some (.inr (2, [.ref L, .ref F, .int nF, .ref Gd]))) (i : Int32) (v : Int32) (hO : w o = some (.inl (G.2.1.2.1, 1, .inr (.inl d)))) (hI : PuM l y_B_result ws_B_result 0 G w [.ref x, .int i] (some (.int v))) :
    GnI l y_L_result ws_L_result 9 0 0 G w [.ref x, .int i, .ref o] (fun r0 w2 => r0 = 0 ∧ w2 = va_up w o (some (.inl (G.2.1.2.1, 1, .inr (.inl (vp_updL d 0 v.toInt64)))))) := by
  refine wr_ent (by decide +kernel) (Nat.le_of_ble_eq_true rfl) (fun p e s m below meth c ls C0 htab hr hH hl => ?_)
  have hx := C0.1
  have hb := C0.2.1
  have hS : va_S (gA G) s.heap s.heap [] := va_S.rf
  have hl : lv_has ls 4 [(0, .ref x), (1, .int i), (2, .ref o)] := hl
  refine lv_aload_n hx hb d_L_result_0 rfl (lv_at hl 2 rfl) ?_
  refine lv_iconst (v := 0) hx hb d_L_result_1 (by decide) ?_
  refine lv_aload_n hx hb d_L_result_2 rfl (lv_at hl 0 rfl) ?_
  refine lv_iload_n hx hb d_L_result_3 rfl (lv_at hl 1 rfl) ?_
  refine pu_v (runV C0 (hI) (cs_L_39 C0 ⟨Nat.le_of_ble_eq_true rfl, Nat.le_of_ble_eq_true rfl⟩) hH hS (hd_recv C0.hK hH rfl hB) rfl hl.1 rfl (lv_room (Nat.le_of_ble_eq_true rfl)) d_L_result_4 ⟨by show _ ≤ 0; omega, by show _ ≤ 0; omega⟩) ?_
  refine lv_i2l hx hb d_L_result_7 rfl ?_
  refine hd_last hx hb C0.hK hH hS 1 hO rfl (show vp_in (nI 0) 1 from vp_in_nI (by decide) (by decide)) d_L_result_8 (fun H locs hH hS => ?_)
  rw [sb_cl0] at hH
  refine lv_goto (tgt := 15) hx hb d_L_result_9 (by decide) ?_
  refine lv_iconst (v := 0) hx hb d_L_result_15 (by decide) ?_
  exact W.iret hx hb hr (fun t ht hW => ⟨⟨0, _, rfl, ⟨rfl, rfl⟩, Wo.at C0.ev hH hS ht hW⟩, hS.F ht⟩) hS.2.2 d_L_result_16 (hlocks := C0.2.2.2.2.2.2)

set_option maxHeartbeats 4000000 in
set_option maxRecDepth 100000 in
theorem k_L_box (l : Launch) (G : Gl) (w : World) {x L F Gd o : Nat} {nF : Int32} {d : Nat → Int64} (hB : w x = some (.inr (2, [.ref L, .ref F, .int nF, .ref Gd]))) (n z : Int32) (v : Int32) (hO : w o = some (.inl (G.2.1.2.1, 1, .inr (.inl d)))) (hI : PuM l y_B_box ws_B_box 5 G w [.ref x, .int n, .int z] (some (.int v))) :
    GnI l y_L_box ws_L_box 9 0 0 G w [.ref x, .int n, .int z, .ref o] (fun r0 w2 => r0 = 0 ∧ w2 = va_up w o (some (.inl (G.2.1.2.1, 1, .inr (.inl (vp_updL d 0 v.toInt64)))))) := by
  refine wr_ent (by decide +kernel) (Nat.le_of_ble_eq_true rfl) (fun p e s m below meth c ls C0 htab hr hH hl => ?_)
  have hx := C0.1
  have hb := C0.2.1
  have hS : va_S (gA G) s.heap s.heap [] := va_S.rf
  have hl : lv_has ls 5 [(0, .ref x), (1, .int n), (2, .int z), (3, .ref o)] := hl
  refine lv_aload_n hx hb d_L_box_0 rfl (lv_at hl 3 rfl) ?_
  refine lv_iconst (v := 0) hx hb d_L_box_1 (by decide) ?_
  refine lv_aload_n hx hb d_L_box_2 rfl (lv_at hl 0 rfl) ?_
  refine lv_iload_n hx hb d_L_box_3 rfl (lv_at hl 1 rfl) ?_
  refine lv_iload_n hx hb d_L_box_4 rfl (lv_at hl 2 rfl) ?_
  refine pu_v (runV C0 (hI) (cs_L_42 C0 ⟨Nat.le_of_ble_eq_true rfl, Nat.le_of_ble_eq_true rfl⟩) hH hS (hd_recv C0.hK hH rfl hB) rfl hl.1 rfl (lv_room (Nat.le_of_ble_eq_true rfl)) d_L_box_5 ⟨by show _ ≤ 0; omega, by show _ ≤ 0; omega⟩) ?_
  refine lv_i2l hx hb d_L_box_8 rfl ?_
  refine hd_last hx hb C0.hK hH hS 1 hO rfl (show vp_in (nI 0) 1 from vp_in_nI (by decide) (by decide)) d_L_box_9 (fun H locs hH hS => ?_)
  rw [sb_cl0] at hH
  refine lv_goto (tgt := 17) hx hb d_L_box_10 (by decide) ?_
  refine lv_iconst (v := 0) hx hb d_L_box_17 (by decide) ?_
  exact W.iret hx hb hr (fun t ht hW => ⟨⟨0, _, rfl, ⟨rfl, rfl⟩, Wo.at C0.ev hH hS ht hW⟩, hS.F ht⟩) hS.2.2 d_L_box_18 (hlocks := C0.2.2.2.2.2.2)

set_option maxHeartbeats 4000000 in
set_option maxRecDepth 100000 in
theorem x_L_put1 (l : Launch) (G : Gl) (w : World) {x L F Gd o : Nat} {nF : Int32} (hB : w x = some (.inr (2, [.ref L, .ref F, .int nF, .ref Gd]))) (n lx ly hx1 hy1 : Int32) (hI : ThM l y_B_put ws_B_put 8 G w [.ref x, .int n, .int lx, .int ly, .int hx1, .int hy1] "java/lang/IndexOutOfBoundsException") :
    GnI l y_L_put ws_L_put 9 1 6 G w [.ref x, .int n, .int lx, .int ly, .int hx1, .int hy1, .ref o] (fun r0 w2 => r0 = 1 ∧ w2 = w) := by
  refine wr_ent (by decide +kernel) (Nat.le_of_ble_eq_true rfl) (fun p e s m below meth c ls C0 htab hr hH hl => ?_)
  have hx := C0.1
  have hb := C0.2.1
  have hS : va_S (gA G) s.heap s.heap [] := va_S.rf
  have hl : lv_has ls 8 [(0, .ref x), (1, .int n), (2, .int lx), (3, .int ly), (4, .int hx1), (5, .int hy1), (6, .ref o)] := hl
  refine lv_aload hx hb d_L_put_0 (lv_at hl 6 rfl) ?_
  refine lv_iconst (v := 0) hx hb d_L_put_2 (by decide) ?_
  refine lv_aload_n hx hb d_L_put_3 rfl (lv_at hl 0 rfl) ?_
  refine lv_iload_n hx hb d_L_put_4 rfl (lv_at hl 1 rfl) ?_
  refine lv_iload_n hx hb d_L_put_5 rfl (lv_at hl 2 rfl) ?_
  refine lv_iload_n hx hb d_L_put_6 rfl (lv_at hl 3 rfl) ?_
  refine lv_iload hx hb d_L_put_7 (lv_at hl 4 rfl) ?_
  refine lv_iload hx hb d_L_put_9 (lv_at hl 5 rfl) ?_
  refine th_goon (xrunV C0 hI (cs_L_7 C0 ⟨by decide, by decide⟩) hH hS (hd_recv C0.hK hH rfl hB) rfl hl.1 rfl (lv_room (Nat.le_of_ble_eq_true rfl)) d_L_put_11 ⟨Nat.le_refl _, Nat.le_refl _⟩) (fun H1 q9 ce hq1 hq2 hq3 hq4 hq5 => ?_)
  have hS : va_S (gA G) s.heap H1 [] := va_S_more hS hq4 hq5
  have hH : Hw G w H1 := hH.kept hq5
  refine vx_catch (name := "java/lang/IndexOutOfBoundsException") C0.2.2.2.1 [] { startPc := 0, endPc := 23, handlerPc := 26, catchType := 13 } [{ startPc := 0, endPc := 23, handlerPc := 30, catchType := 15 }] (by rw [htab]; rfl) (fun z hz => by cases hz) rfl (by decide) (C0.2.2.2.2.1 _ mw_145) (va_Nw.use (nb_on (.castable "java/lang/IndexOutOfBoundsException" "java/lang/IndexOutOfBoundsException") (by decide +kernel)) (C0.ev.2.2.2.2.2.2.1 _ (by decide +kernel))) hq1 hq2 hq3 ?_
  refine W.eq (g2 := F0 m 26 ls [.ref q9]) rfl ?_
  refine lv_astore (lv' := [(7, .ref q9), (0, .ref x), (1, .int n), (2, .int lx), (3, .int ly), (4, .int hx1), (5, .int hy1), (6, .ref o)]) hx hb d_L_put_26 hl (by decide) rfl (fun ls hl => ?_)
  refine lv_iconst (v := 1) hx hb d_L_put_28 (by decide) ?_
  exact W.iret hx hb hr (fun t ht hW => ⟨⟨1, _, rfl, ⟨rfl, rfl⟩, Wo.at C0.ev hH hS ht hW⟩, hS.F ht⟩) hS.2.2 d_L_put_29 (hlocks := C0.2.2.2.2.2.2)

set_option maxHeartbeats 4000000 in
set_option maxRecDepth 100000 in
theorem x_L_put2 (l : Launch) (G : Gl) (w : World) {x L F Gd o : Nat} {nF : Int32} (hB : w x = some (.inr (2, [.ref L, .ref F, .int nF, .ref Gd]))) (n lx ly hx1 hy1 : Int32) (hI : ThM l y_B_put ws_B_put 8 G w [.ref x, .int n, .int lx, .int ly, .int hx1, .int hy1] "java/lang/IllegalArgumentException") :
    GnI l y_L_put ws_L_put 9 1 6 G w [.ref x, .int n, .int lx, .int ly, .int hx1, .int hy1, .ref o] (fun r0 w2 => r0 = 2 ∧ w2 = w) := by
  refine wr_ent (by decide +kernel) (Nat.le_of_ble_eq_true rfl) (fun p e s m below meth c ls C0 htab hr hH hl => ?_)
  have hx := C0.1
  have hb := C0.2.1
  have hS : va_S (gA G) s.heap s.heap [] := va_S.rf
  have hl : lv_has ls 8 [(0, .ref x), (1, .int n), (2, .int lx), (3, .int ly), (4, .int hx1), (5, .int hy1), (6, .ref o)] := hl
  refine lv_aload hx hb d_L_put_0 (lv_at hl 6 rfl) ?_
  refine lv_iconst (v := 0) hx hb d_L_put_2 (by decide) ?_
  refine lv_aload_n hx hb d_L_put_3 rfl (lv_at hl 0 rfl) ?_
  refine lv_iload_n hx hb d_L_put_4 rfl (lv_at hl 1 rfl) ?_
  refine lv_iload_n hx hb d_L_put_5 rfl (lv_at hl 2 rfl) ?_
  refine lv_iload_n hx hb d_L_put_6 rfl (lv_at hl 3 rfl) ?_
  refine lv_iload hx hb d_L_put_7 (lv_at hl 4 rfl) ?_
  refine lv_iload hx hb d_L_put_9 (lv_at hl 5 rfl) ?_
  refine th_goon (xrunV C0 hI (cs_L_7 C0 ⟨by decide, by decide⟩) hH hS (hd_recv C0.hK hH rfl hB) rfl hl.1 rfl (lv_room (Nat.le_of_ble_eq_true rfl)) d_L_put_11 ⟨Nat.le_refl _, Nat.le_refl _⟩) (fun H1 q9 ce hq1 hq2 hq3 hq4 hq5 => ?_)
  have hS : va_S (gA G) s.heap H1 [] := va_S_more hS hq4 hq5
  have hH : Hw G w H1 := hH.kept hq5
  refine vx_catch (name := "java/lang/IllegalArgumentException") C0.2.2.2.1 [{ startPc := 0, endPc := 23, handlerPc := 26, catchType := 13 }] { startPc := 0, endPc := 23, handlerPc := 30, catchType := 15 } [] (by rw [htab]; rfl) (fun z hz => Or.inr (by rw [List.mem_singleton.mp hz]; exact ⟨by decide, "java/lang/IndexOutOfBoundsException", C0.2.2.2.2.1 _ mw_145, C0.ev.2.2.2.2.2.2.2.2.2.2.1⟩)) rfl (by decide) (C0.2.2.2.2.1 _ mw_146) (va_Nw.use (nb_on (.castable "java/lang/IllegalArgumentException" "java/lang/IllegalArgumentException") (by decide +kernel)) (C0.ev.2.2.2.2.2.2.1 _ (by decide +kernel))) hq1 hq2 hq3 ?_
  refine W.eq (g2 := F0 m 30 ls [.ref q9]) rfl ?_
  refine lv_astore (lv' := [(7, .ref q9), (0, .ref x), (1, .int n), (2, .int lx), (3, .int ly), (4, .int hx1), (5, .int hy1), (6, .ref o)]) hx hb d_L_put_30 hl (by decide) rfl (fun ls hl => ?_)
  refine lv_iconst (v := 2) hx hb d_L_put_32 (by decide) ?_
  exact W.iret hx hb hr (fun t ht hW => ⟨⟨2, _, rfl, ⟨rfl, rfl⟩, Wo.at C0.ev hH hS ht hW⟩, hS.F ht⟩) hS.2.2 d_L_put_33 (hlocks := C0.2.2.2.2.2.2)

set_option maxHeartbeats 4000000 in
set_option maxRecDepth 100000 in
theorem x_L_take1 (l : Launch) (G : Gl) (w : World) {x L F Gd o : Nat} {nF : Int32} (hB : w x = some (.inr (2, [.ref L, .ref F, .int nF, .ref Gd]))) (n : Int32) (hI : ThM l y_B_take ws_B_take 8 G w [.ref x, .int n] "java/lang/IndexOutOfBoundsException") :
    GnI l y_L_take ws_L_take 9 1 6 G w [.ref x, .int n, .ref o] (fun r0 w2 => r0 = 1 ∧ w2 = w) := by
  refine wr_ent (by decide +kernel) (Nat.le_of_ble_eq_true rfl) (fun p e s m below meth c ls C0 htab hr hH hl => ?_)
  have hx := C0.1
  have hb := C0.2.1
  have hS : va_S (gA G) s.heap s.heap [] := va_S.rf
  have hl : lv_has ls 4 [(0, .ref x), (1, .int n), (2, .ref o)] := hl
  refine lv_aload_n hx hb d_L_take_0 rfl (lv_at hl 2 rfl) ?_
  refine lv_iconst (v := 0) hx hb d_L_take_1 (by decide) ?_
  refine lv_aload_n hx hb d_L_take_2 rfl (lv_at hl 0 rfl) ?_
  refine lv_iload_n hx hb d_L_take_3 rfl (lv_at hl 1 rfl) ?_
  refine th_goon (xrunV C0 hI (cs_L_17 C0 ⟨by decide, by decide⟩) hH hS (hd_recv C0.hK hH rfl hB) rfl hl.1 rfl (lv_room (Nat.le_of_ble_eq_true rfl)) d_L_take_4 ⟨Nat.le_refl _, Nat.le_refl _⟩) (fun H1 q9 ce hq1 hq2 hq3 hq4 hq5 => ?_)
  have hS : va_S (gA G) s.heap H1 [] := va_S_more hS hq4 hq5
  have hH : Hw G w H1 := hH.kept hq5
  refine vx_catch (name := "java/lang/IndexOutOfBoundsException") C0.2.2.2.1 [] { startPc := 0, endPc := 16, handlerPc := 19, catchType := 13 } [] (by rw [htab]; rfl) (fun z hz => by cases hz) rfl (by decide) (C0.2.2.2.2.1 _ mw_145) (va_Nw.use (nb_on (.castable "java/lang/IndexOutOfBoundsException" "java/lang/IndexOutOfBoundsException") (by decide +kernel)) (C0.ev.2.2.2.2.2.2.1 _ (by decide +kernel))) hq1 hq2 hq3 ?_
  refine W.eq (g2 := F0 m 19 ls [.ref q9]) rfl ?_
  refine lv_astore_n (lv' := [(3, .ref q9), (0, .ref x), (1, .int n), (2, .ref o)]) hx hb d_L_take_19 rfl hl (by decide) rfl (fun ls hl => ?_)
  refine lv_iconst (v := 1) hx hb d_L_take_20 (by decide) ?_
  exact W.iret hx hb hr (fun t ht hW => ⟨⟨1, _, rfl, ⟨rfl, rfl⟩, Wo.at C0.ev hH hS ht hW⟩, hS.F ht⟩) hS.2.2 d_L_take_21 (hlocks := C0.2.2.2.2.2.2)

set_option maxHeartbeats 4000000 in
set_option maxRecDepth 100000 in
theorem x_L_find1 (l : Launch) (G : Gl) (w : World) {x L F Gd o : Nat} {nF : Int32} (hB : w x = some (.inr (2, [.ref L, .ref F, .int nF, .ref Gd]))) (k lx ly hx1 hy1 : Int32) (hI : ThM l y_B_find ws_B_find 8 G w [.ref x, .int k, .int lx, .int ly, .int hx1, .int hy1] "java/lang/IllegalArgumentException") :
    GnI l y_L_find ws_L_find 9 1 6 G w [.ref x, .int k, .int lx, .int ly, .int hx1, .int hy1, .ref o] (fun r0 w2 => r0 = 1 ∧ w2 = w) := by
  refine wr_ent (by decide +kernel) (Nat.le_of_ble_eq_true rfl) (fun p e s m below meth c ls C0 htab hr hH hl => ?_)
  have hx := C0.1
  have hb := C0.2.1
  have hS : va_S (gA G) s.heap s.heap [] := va_S.rf
  have hl : lv_has ls 8 [(0, .ref x), (1, .int k), (2, .int lx), (3, .int ly), (4, .int hx1), (5, .int hy1), (6, .ref o)] := hl
  refine lv_aload hx hb d_L_find_0 (lv_at hl 6 rfl) ?_
  refine lv_iconst (v := 0) hx hb d_L_find_2 (by decide) ?_
  refine lv_aload_n hx hb d_L_find_3 rfl (lv_at hl 0 rfl) ?_
  refine lv_iload_n hx hb d_L_find_4 rfl (lv_at hl 1 rfl) ?_
  refine lv_iload_n hx hb d_L_find_5 rfl (lv_at hl 2 rfl) ?_
  refine lv_iload_n hx hb d_L_find_6 rfl (lv_at hl 3 rfl) ?_
  refine lv_iload hx hb d_L_find_7 (lv_at hl 4 rfl) ?_
  refine lv_iload hx hb d_L_find_9 (lv_at hl 5 rfl) ?_
  refine th_goon (xrunV C0 hI (cs_L_21 C0 ⟨by decide, by decide⟩) hH hS (hd_recv C0.hK hH rfl hB) rfl hl.1 rfl (lv_room (Nat.le_of_ble_eq_true rfl)) d_L_find_11 ⟨Nat.le_refl _, Nat.le_refl _⟩) (fun H1 q9 ce hq1 hq2 hq3 hq4 hq5 => ?_)
  have hS : va_S (gA G) s.heap H1 [] := va_S_more hS hq4 hq5
  have hH : Hw G w H1 := hH.kept hq5
  refine vx_catch (name := "java/lang/IllegalArgumentException") C0.2.2.2.1 [] { startPc := 0, endPc := 16, handlerPc := 19, catchType := 15 } [] (by rw [htab]; rfl) (fun z hz => by cases hz) rfl (by decide) (C0.2.2.2.2.1 _ mw_146) (va_Nw.use (nb_on (.castable "java/lang/IllegalArgumentException" "java/lang/IllegalArgumentException") (by decide +kernel)) (C0.ev.2.2.2.2.2.2.1 _ (by decide +kernel))) hq1 hq2 hq3 ?_
  refine W.eq (g2 := F0 m 19 ls [.ref q9]) rfl ?_
  refine lv_astore (lv' := [(7, .ref q9), (0, .ref x), (1, .int k), (2, .int lx), (3, .int ly), (4, .int hx1), (5, .int hy1), (6, .ref o)]) hx hb d_L_find_19 hl (by decide) rfl (fun ls hl => ?_)
  refine lv_iconst (v := 1) hx hb d_L_find_21 (by decide) ?_
  exact W.iret hx hb hr (fun t ht hW => ⟨⟨1, _, rfl, ⟨rfl, rfl⟩, Wo.at C0.ev hH hS ht hW⟩, hS.F ht⟩) hS.2.2 d_L_find_22 (hlocks := C0.2.2.2.2.2.2)

set_option maxHeartbeats 4000000 in
set_option maxRecDepth 100000 in
theorem x_L_nearest1 (l : Launch) (G : Gl) (w : World) {x L F Gd o : Nat} {nF : Int32} (hB : w x = some (.inr (2, [.ref L, .ref F, .int nF, .ref Gd]))) (px py n : Int32) (hI : ThM l y_B_nearest ws_B_nearest 8 G w [.ref x, .int px, .int py, .int n] "java/lang/IllegalArgumentException") :
    GnI l y_L_nearest ws_L_nearest 9 1 6 G w [.ref x, .int px, .int py, .int n, .ref o] (fun r0 w2 => r0 = 1 ∧ w2 = w) := by
  refine wr_ent (by decide +kernel) (Nat.le_of_ble_eq_true rfl) (fun p e s m below meth c ls C0 htab hr hH hl => ?_)
  have hx := C0.1
  have hb := C0.2.1
  have hS : va_S (gA G) s.heap s.heap [] := va_S.rf
  have hl : lv_has ls 6 [(0, .ref x), (1, .int px), (2, .int py), (3, .int n), (4, .ref o)] := hl
  refine lv_aload hx hb d_L_nearest_0 (lv_at hl 4 rfl) ?_
  refine lv_iconst (v := 0) hx hb d_L_nearest_2 (by decide) ?_
  refine lv_aload_n hx hb d_L_nearest_3 rfl (lv_at hl 0 rfl) ?_
  refine lv_iload_n hx hb d_L_nearest_4 rfl (lv_at hl 1 rfl) ?_
  refine lv_iload_n hx hb d_L_nearest_5 rfl (lv_at hl 2 rfl) ?_
  refine lv_iload_n hx hb d_L_nearest_6 rfl (lv_at hl 3 rfl) ?_
  refine th_goon (xrunV C0 hI (cs_L_25 C0 ⟨by decide, by decide⟩) hH hS (hd_recv C0.hK hH rfl hB) rfl hl.1 rfl (lv_room (Nat.le_of_ble_eq_true rfl)) d_L_nearest_7 ⟨Nat.le_refl _, Nat.le_refl _⟩) (fun H1 q9 ce hq1 hq2 hq3 hq4 hq5 => ?_)
  have hS : va_S (gA G) s.heap H1 [] := va_S_more hS hq4 hq5
  have hH : Hw G w H1 := hH.kept hq5
  refine vx_catch (name := "java/lang/IllegalArgumentException") C0.2.2.2.1 [] { startPc := 0, endPc := 12, handlerPc := 15, catchType := 15 } [] (by rw [htab]; rfl) (fun z hz => by cases hz) rfl (by decide) (C0.2.2.2.2.1 _ mw_146) (va_Nw.use (nb_on (.castable "java/lang/IllegalArgumentException" "java/lang/IllegalArgumentException") (by decide +kernel)) (C0.ev.2.2.2.2.2.2.1 _ (by decide +kernel))) hq1 hq2 hq3 ?_
  refine W.eq (g2 := F0 m 15 ls [.ref q9]) rfl ?_
  refine lv_astore (lv' := [(5, .ref q9), (0, .ref x), (1, .int px), (2, .int py), (3, .int n), (4, .ref o)]) hx hb d_L_nearest_15 hl (by decide) rfl (fun ls hl => ?_)
  refine lv_iconst (v := 1) hx hb d_L_nearest_17 (by decide) ?_
  exact W.iret hx hb hr (fun t ht hW => ⟨⟨1, _, rfl, ⟨rfl, rfl⟩, Wo.at C0.ev hH hS ht hW⟩, hS.F ht⟩) hS.2.2 d_L_nearest_18 (hlocks := C0.2.2.2.2.2.2)

set_option maxHeartbeats 4000000 in
set_option maxRecDepth 100000 in
theorem x_L_distance1 (l : Launch) (G : Gl) (w : World) {x L F Gd o : Nat} {nF : Int32} (hB : w x = some (.inr (2, [.ref L, .ref F, .int nF, .ref Gd]))) (n px py : Int32) (hI : ThM l y_B_distance ws_B_distance 7 G w [.ref x, .int n, .int px, .int py] "java/lang/IndexOutOfBoundsException") :
    GnI l y_L_distance ws_L_distance 9 1 6 G w [.ref x, .int n, .int px, .int py, .ref o] (fun r0 w2 => r0 = 1 ∧ w2 = w) := by
  refine wr_ent (by decide +kernel) (Nat.le_of_ble_eq_true rfl) (fun p e s m below meth c ls C0 htab hr hH hl => ?_)
  have hx := C0.1
  have hb := C0.2.1
  have hS : va_S (gA G) s.heap s.heap [] := va_S.rf
  have hl : lv_has ls 6 [(0, .ref x), (1, .int n), (2, .int px), (3, .int py), (4, .ref o)] := hl
  refine lv_aload hx hb d_L_distance_0 (lv_at hl 4 rfl) ?_
  refine lv_iconst (v := 0) hx hb d_L_distance_2 (by decide) ?_
  refine lv_aload_n hx hb d_L_distance_3 rfl (lv_at hl 0 rfl) ?_
  refine lv_iload_n hx hb d_L_distance_4 rfl (lv_at hl 1 rfl) ?_
  refine lv_iload_n hx hb d_L_distance_5 rfl (lv_at hl 2 rfl) ?_
  refine lv_iload_n hx hb d_L_distance_6 rfl (lv_at hl 3 rfl) ?_
  refine th_goon (xrunV C0 hI (cs_L_29 C0 ⟨by decide, by decide⟩) hH hS (hd_recv C0.hK hH rfl hB) rfl hl.1 rfl (lv_room (Nat.le_of_ble_eq_true rfl)) d_L_distance_7 ⟨Nat.le_refl _, Nat.le_refl _⟩) (fun H1 q9 ce hq1 hq2 hq3 hq4 hq5 => ?_)
  have hS : va_S (gA G) s.heap H1 [] := va_S_more hS hq4 hq5
  have hH : Hw G w H1 := hH.kept hq5
  refine vx_catch (name := "java/lang/IndexOutOfBoundsException") C0.2.2.2.1 [] { startPc := 0, endPc := 11, handlerPc := 14, catchType := 13 } [{ startPc := 0, endPc := 11, handlerPc := 18, catchType := 15 }] (by rw [htab]; rfl) (fun z hz => by cases hz) rfl (by decide) (C0.2.2.2.2.1 _ mw_145) (va_Nw.use (nb_on (.castable "java/lang/IndexOutOfBoundsException" "java/lang/IndexOutOfBoundsException") (by decide +kernel)) (C0.ev.2.2.2.2.2.2.1 _ (by decide +kernel))) hq1 hq2 hq3 ?_
  refine W.eq (g2 := F0 m 14 ls [.ref q9]) rfl ?_
  refine lv_astore (lv' := [(5, .ref q9), (0, .ref x), (1, .int n), (2, .int px), (3, .int py), (4, .ref o)]) hx hb d_L_distance_14 hl (by decide) rfl (fun ls hl => ?_)
  refine lv_iconst (v := 1) hx hb d_L_distance_16 (by decide) ?_
  exact W.iret hx hb hr (fun t ht hW => ⟨⟨1, _, rfl, ⟨rfl, rfl⟩, Wo.at C0.ev hH hS ht hW⟩, hS.F ht⟩) hS.2.2 d_L_distance_17 (hlocks := C0.2.2.2.2.2.2)

set_option maxHeartbeats 4000000 in
set_option maxRecDepth 100000 in
theorem x_L_distance2 (l : Launch) (G : Gl) (w : World) {x L F Gd o : Nat} {nF : Int32} (hB : w x = some (.inr (2, [.ref L, .ref F, .int nF, .ref Gd]))) (n px py : Int32) (hI : ThM l y_B_distance ws_B_distance 7 G w [.ref x, .int n, .int px, .int py] "java/lang/IllegalArgumentException") :
    GnI l y_L_distance ws_L_distance 9 1 6 G w [.ref x, .int n, .int px, .int py, .ref o] (fun r0 w2 => r0 = 2 ∧ w2 = w) := by
  refine wr_ent (by decide +kernel) (Nat.le_of_ble_eq_true rfl) (fun p e s m below meth c ls C0 htab hr hH hl => ?_)
  have hx := C0.1
  have hb := C0.2.1
  have hS : va_S (gA G) s.heap s.heap [] := va_S.rf
  have hl : lv_has ls 6 [(0, .ref x), (1, .int n), (2, .int px), (3, .int py), (4, .ref o)] := hl
  refine lv_aload hx hb d_L_distance_0 (lv_at hl 4 rfl) ?_
  refine lv_iconst (v := 0) hx hb d_L_distance_2 (by decide) ?_
  refine lv_aload_n hx hb d_L_distance_3 rfl (lv_at hl 0 rfl) ?_
  refine lv_iload_n hx hb d_L_distance_4 rfl (lv_at hl 1 rfl) ?_
  refine lv_iload_n hx hb d_L_distance_5 rfl (lv_at hl 2 rfl) ?_
  refine lv_iload_n hx hb d_L_distance_6 rfl (lv_at hl 3 rfl) ?_
  refine th_goon (xrunV C0 hI (cs_L_29 C0 ⟨by decide, by decide⟩) hH hS (hd_recv C0.hK hH rfl hB) rfl hl.1 rfl (lv_room (Nat.le_of_ble_eq_true rfl)) d_L_distance_7 ⟨Nat.le_refl _, Nat.le_refl _⟩) (fun H1 q9 ce hq1 hq2 hq3 hq4 hq5 => ?_)
  have hS : va_S (gA G) s.heap H1 [] := va_S_more hS hq4 hq5
  have hH : Hw G w H1 := hH.kept hq5
  refine vx_catch (name := "java/lang/IllegalArgumentException") C0.2.2.2.1 [{ startPc := 0, endPc := 11, handlerPc := 14, catchType := 13 }] { startPc := 0, endPc := 11, handlerPc := 18, catchType := 15 } [] (by rw [htab]; rfl) (fun z hz => Or.inr (by rw [List.mem_singleton.mp hz]; exact ⟨by decide, "java/lang/IndexOutOfBoundsException", C0.2.2.2.2.1 _ mw_145, C0.ev.2.2.2.2.2.2.2.2.2.2.1⟩)) rfl (by decide) (C0.2.2.2.2.1 _ mw_146) (va_Nw.use (nb_on (.castable "java/lang/IllegalArgumentException" "java/lang/IllegalArgumentException") (by decide +kernel)) (C0.ev.2.2.2.2.2.2.1 _ (by decide +kernel))) hq1 hq2 hq3 ?_
  refine W.eq (g2 := F0 m 18 ls [.ref q9]) rfl ?_
  refine lv_astore (lv' := [(5, .ref q9), (0, .ref x), (1, .int n), (2, .int px), (3, .int py), (4, .ref o)]) hx hb d_L_distance_18 hl (by decide) rfl (fun ls hl => ?_)
  refine lv_iconst (v := 2) hx hb d_L_distance_20 (by decide) ?_
  exact W.iret hx hb hr (fun t ht hW => ⟨⟨2, _, rfl, ⟨rfl, rfl⟩, Wo.at C0.ev hH hS ht hW⟩, hS.F ht⟩) hS.2.2 d_L_distance_21 (hlocks := C0.2.2.2.2.2.2)

set_option maxHeartbeats 4000000 in
set_option maxRecDepth 100000 in
theorem x_L_bounds1 (l : Launch) (G : Gl) (w : World) {x L F Gd o : Nat} {nF : Int32} (hB : w x = some (.inr (2, [.ref L, .ref F, .int nF, .ref Gd]))) (z : Int32) (hI : ThM l y_B_bounds ws_B_bounds 7 G w [.ref x, .int z] "java/lang/IndexOutOfBoundsException") :
    GnI l y_L_bounds ws_L_bounds 9 1 6 G w [.ref x, .int z, .ref o] (fun r0 w2 => r0 = 1 ∧ w2 = w) := by
  refine wr_ent (by decide +kernel) (Nat.le_of_ble_eq_true rfl) (fun p e s m below meth c ls C0 htab hr hH hl => ?_)
  have hx := C0.1
  have hb := C0.2.1
  have hS : va_S (gA G) s.heap s.heap [] := va_S.rf
  have hl : lv_has ls 4 [(0, .ref x), (1, .int z), (2, .ref o)] := hl
  refine lv_aload_n hx hb d_L_bounds_0 rfl (lv_at hl 2 rfl) ?_
  refine lv_iconst (v := 0) hx hb d_L_bounds_1 (by decide) ?_
  refine lv_aload_n hx hb d_L_bounds_2 rfl (lv_at hl 0 rfl) ?_
  refine lv_iload_n hx hb d_L_bounds_3 rfl (lv_at hl 1 rfl) ?_
  refine th_goon (xrunV C0 hI (cs_L_33 C0 ⟨by decide, by decide⟩) hH hS (hd_recv C0.hK hH rfl hB) rfl hl.1 rfl (lv_room (Nat.le_of_ble_eq_true rfl)) d_L_bounds_4 ⟨Nat.le_refl _, Nat.le_refl _⟩) (fun H1 q9 ce hq1 hq2 hq3 hq4 hq5 => ?_)
  have hS : va_S (gA G) s.heap H1 [] := va_S_more hS hq4 hq5
  have hH : Hw G w H1 := hH.kept hq5
  refine vx_catch (name := "java/lang/IndexOutOfBoundsException") C0.2.2.2.1 [] { startPc := 0, endPc := 9, handlerPc := 12, catchType := 13 } [{ startPc := 0, endPc := 9, handlerPc := 15, catchType := 37 }] (by rw [htab]; rfl) (fun z hz => by cases hz) rfl (by decide) (C0.2.2.2.2.1 _ mw_145) (va_Nw.use (nb_on (.castable "java/lang/IndexOutOfBoundsException" "java/lang/IndexOutOfBoundsException") (by decide +kernel)) (C0.ev.2.2.2.2.2.2.1 _ (by decide +kernel))) hq1 hq2 hq3 ?_
  refine W.eq (g2 := F0 m 12 ls [.ref q9]) rfl ?_
  refine lv_astore_n (lv' := [(3, .ref q9), (0, .ref x), (1, .int z), (2, .ref o)]) hx hb d_L_bounds_12 rfl hl (by decide) rfl (fun ls hl => ?_)
  refine lv_iconst (v := 1) hx hb d_L_bounds_13 (by decide) ?_
  exact W.iret hx hb hr (fun t ht hW => ⟨⟨1, _, rfl, ⟨rfl, rfl⟩, Wo.at C0.ev hH hS ht hW⟩, hS.F ht⟩) hS.2.2 d_L_bounds_14 (hlocks := C0.2.2.2.2.2.2)

set_option maxHeartbeats 4000000 in
set_option maxRecDepth 100000 in
theorem x_L_bounds2 (l : Launch) (G : Gl) (w : World) {x L F Gd o : Nat} {nF : Int32} (hB : w x = some (.inr (2, [.ref L, .ref F, .int nF, .ref Gd]))) (z : Int32) (hI : ThM l y_B_bounds ws_B_bounds 7 G w [.ref x, .int z] "java/lang/IllegalStateException") :
    GnI l y_L_bounds ws_L_bounds 9 1 6 G w [.ref x, .int z, .ref o] (fun r0 w2 => r0 = 2 ∧ w2 = w) := by
  refine wr_ent (by decide +kernel) (Nat.le_of_ble_eq_true rfl) (fun p e s m below meth c ls C0 htab hr hH hl => ?_)
  have hx := C0.1
  have hb := C0.2.1
  have hS : va_S (gA G) s.heap s.heap [] := va_S.rf
  have hl : lv_has ls 4 [(0, .ref x), (1, .int z), (2, .ref o)] := hl
  refine lv_aload_n hx hb d_L_bounds_0 rfl (lv_at hl 2 rfl) ?_
  refine lv_iconst (v := 0) hx hb d_L_bounds_1 (by decide) ?_
  refine lv_aload_n hx hb d_L_bounds_2 rfl (lv_at hl 0 rfl) ?_
  refine lv_iload_n hx hb d_L_bounds_3 rfl (lv_at hl 1 rfl) ?_
  refine th_goon (xrunV C0 hI (cs_L_33 C0 ⟨by decide, by decide⟩) hH hS (hd_recv C0.hK hH rfl hB) rfl hl.1 rfl (lv_room (Nat.le_of_ble_eq_true rfl)) d_L_bounds_4 ⟨Nat.le_refl _, Nat.le_refl _⟩) (fun H1 q9 ce hq1 hq2 hq3 hq4 hq5 => ?_)
  have hS : va_S (gA G) s.heap H1 [] := va_S_more hS hq4 hq5
  have hH : Hw G w H1 := hH.kept hq5
  refine vx_catch (name := "java/lang/IllegalStateException") C0.2.2.2.1 [{ startPc := 0, endPc := 9, handlerPc := 12, catchType := 13 }] { startPc := 0, endPc := 9, handlerPc := 15, catchType := 37 } [] (by rw [htab]; rfl) (fun z hz => Or.inr (by rw [List.mem_singleton.mp hz]; exact ⟨by decide, "java/lang/IndexOutOfBoundsException", C0.2.2.2.2.1 _ mw_145, C0.ev.2.2.2.2.2.2.2.2.2.2.2.1⟩)) rfl (by decide) (C0.2.2.2.2.1 _ mw_637) (va_Nw.use (nb_on (.castable "java/lang/IllegalStateException" "java/lang/IllegalStateException") (by decide +kernel)) (C0.ev.2.2.2.2.2.2.1 _ (by decide +kernel))) hq1 hq2 hq3 ?_
  refine W.eq (g2 := F0 m 15 ls [.ref q9]) rfl ?_
  refine lv_astore_n (lv' := [(3, .ref q9), (0, .ref x), (1, .int z), (2, .ref o)]) hx hb d_L_bounds_15 rfl hl (by decide) rfl (fun ls hl => ?_)
  refine lv_iconst (v := 2) hx hb d_L_bounds_16 (by decide) ?_
  exact W.iret hx hb hr (fun t ht hW => ⟨⟨2, _, rfl, ⟨rfl, rfl⟩, Wo.at C0.ev hH hS ht hW⟩, hS.F ht⟩) hS.2.2 d_L_bounds_17 (hlocks := C0.2.2.2.2.2.2)

set_option maxHeartbeats 4000000 in
set_option maxRecDepth 100000 in
theorem x_L_result1 (l : Launch) (G : Gl) (w : World) {x L F Gd o : Nat} {nF : Int32} (hB : w x = some (.inr (2, [.ref L, .ref F, .int nF, .ref Gd]))) (i : Int32) (hI : ThM l y_B_result ws_B_result 7 G w [.ref x, .int i] "java/lang/IndexOutOfBoundsException") :
    GnI l y_L_result ws_L_result 9 1 6 G w [.ref x, .int i, .ref o] (fun r0 w2 => r0 = 1 ∧ w2 = w) := by
  refine wr_ent (by decide +kernel) (Nat.le_of_ble_eq_true rfl) (fun p e s m below meth c ls C0 htab hr hH hl => ?_)
  have hx := C0.1
  have hb := C0.2.1
  have hS : va_S (gA G) s.heap s.heap [] := va_S.rf
  have hl : lv_has ls 4 [(0, .ref x), (1, .int i), (2, .ref o)] := hl
  refine lv_aload_n hx hb d_L_result_0 rfl (lv_at hl 2 rfl) ?_
  refine lv_iconst (v := 0) hx hb d_L_result_1 (by decide) ?_
  refine lv_aload_n hx hb d_L_result_2 rfl (lv_at hl 0 rfl) ?_
  refine lv_iload_n hx hb d_L_result_3 rfl (lv_at hl 1 rfl) ?_
  refine th_goon (xrunV C0 hI (cs_L_39 C0 ⟨by decide, by decide⟩) hH hS (hd_recv C0.hK hH rfl hB) rfl hl.1 rfl (lv_room (Nat.le_of_ble_eq_true rfl)) d_L_result_4 ⟨Nat.le_refl _, Nat.le_refl _⟩) (fun H1 q9 ce hq1 hq2 hq3 hq4 hq5 => ?_)
  have hS : va_S (gA G) s.heap H1 [] := va_S_more hS hq4 hq5
  have hH : Hw G w H1 := hH.kept hq5
  refine vx_catch (name := "java/lang/IndexOutOfBoundsException") C0.2.2.2.1 [] { startPc := 0, endPc := 9, handlerPc := 12, catchType := 13 } [] (by rw [htab]; rfl) (fun z hz => by cases hz) rfl (by decide) (C0.2.2.2.2.1 _ mw_145) (va_Nw.use (nb_on (.castable "java/lang/IndexOutOfBoundsException" "java/lang/IndexOutOfBoundsException") (by decide +kernel)) (C0.ev.2.2.2.2.2.2.1 _ (by decide +kernel))) hq1 hq2 hq3 ?_
  refine W.eq (g2 := F0 m 12 ls [.ref q9]) rfl ?_
  refine lv_astore_n (lv' := [(3, .ref q9), (0, .ref x), (1, .int i), (2, .ref o)]) hx hb d_L_result_12 rfl hl (by decide) rfl (fun ls hl => ?_)
  refine lv_iconst (v := 1) hx hb d_L_result_13 (by decide) ?_
  exact W.iret hx hb hr (fun t ht hW => ⟨⟨1, _, rfl, ⟨rfl, rfl⟩, Wo.at C0.ev hH hS ht hW⟩, hS.F ht⟩) hS.2.2 d_L_result_14 (hlocks := C0.2.2.2.2.2.2)

set_option maxHeartbeats 4000000 in
set_option maxRecDepth 100000 in
theorem x_L_box1 (l : Launch) (G : Gl) (w : World) {x L F Gd o : Nat} {nF : Int32} (hB : w x = some (.inr (2, [.ref L, .ref F, .int nF, .ref Gd]))) (n z : Int32) (hI : ThM l y_B_box ws_B_box 7 G w [.ref x, .int n, .int z] "java/lang/IndexOutOfBoundsException") :
    GnI l y_L_box ws_L_box 9 1 6 G w [.ref x, .int n, .int z, .ref o] (fun r0 w2 => r0 = 1 ∧ w2 = w) := by
  refine wr_ent (by decide +kernel) (Nat.le_of_ble_eq_true rfl) (fun p e s m below meth c ls C0 htab hr hH hl => ?_)
  have hx := C0.1
  have hb := C0.2.1
  have hS : va_S (gA G) s.heap s.heap [] := va_S.rf
  have hl : lv_has ls 5 [(0, .ref x), (1, .int n), (2, .int z), (3, .ref o)] := hl
  refine lv_aload_n hx hb d_L_box_0 rfl (lv_at hl 3 rfl) ?_
  refine lv_iconst (v := 0) hx hb d_L_box_1 (by decide) ?_
  refine lv_aload_n hx hb d_L_box_2 rfl (lv_at hl 0 rfl) ?_
  refine lv_iload_n hx hb d_L_box_3 rfl (lv_at hl 1 rfl) ?_
  refine lv_iload_n hx hb d_L_box_4 rfl (lv_at hl 2 rfl) ?_
  refine th_goon (xrunV C0 hI (cs_L_42 C0 ⟨by decide, by decide⟩) hH hS (hd_recv C0.hK hH rfl hB) rfl hl.1 rfl (lv_room (Nat.le_of_ble_eq_true rfl)) d_L_box_5 ⟨Nat.le_refl _, Nat.le_refl _⟩) (fun H1 q9 ce hq1 hq2 hq3 hq4 hq5 => ?_)
  have hS : va_S (gA G) s.heap H1 [] := va_S_more hS hq4 hq5
  have hH : Hw G w H1 := hH.kept hq5
  refine vx_catch (name := "java/lang/IndexOutOfBoundsException") C0.2.2.2.1 [] { startPc := 0, endPc := 10, handlerPc := 13, catchType := 13 } [] (by rw [htab]; rfl) (fun z hz => by cases hz) rfl (by decide) (C0.2.2.2.2.1 _ mw_145) (va_Nw.use (nb_on (.castable "java/lang/IndexOutOfBoundsException" "java/lang/IndexOutOfBoundsException") (by decide +kernel)) (C0.ev.2.2.2.2.2.2.1 _ (by decide +kernel))) hq1 hq2 hq3 ?_
  refine W.eq (g2 := F0 m 13 ls [.ref q9]) rfl ?_
  refine lv_astore (lv' := [(4, .ref q9), (0, .ref x), (1, .int n), (2, .int z), (3, .ref o)]) hx hb d_L_box_13 hl (by decide) rfl (fun ls hl => ?_)
  refine lv_iconst (v := 1) hx hb d_L_box_15 (by decide) ?_
  exact W.iret hx hb hr (fun t ht hW => ⟨⟨1, _, rfl, ⟨rfl, rfl⟩, Wo.at C0.ev hH hS ht hW⟩, hS.F ht⟩) hS.2.2 d_L_box_16 (hlocks := C0.2.2.2.2.2.2)
