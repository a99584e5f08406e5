/-! the start, the end -/
theorem arr_kn {s : State} {args : Array Value} {ty : FieldType} (hp : ∀ C, ty ≠ .object C) (h : (Cond.arrayClass ty).before args s = true) : ∃ cA : ClassId, ArrOfT s cA ty ∧ va_RA s cA ty := by
  obtain ⟨c, k, comp, h1, h2, h3⟩ := Cond.arrayClass_spec h
  refine ⟨c, fun n z => ⟨(fun k h => by cases h), k, h2, comp, h3⟩, ?_⟩
  cases ty with
  | object C => exact absurd rfl (hp C)
  | _ => exact h1
theorem arr_kq {s : State} {args : Array Value} {C : String} (h : (Cond.arrayOver (.object C)).before args s = true) : ∃ cA : ClassId, ArrOfT s cA (.object C) ∧ va_RA s cA (.object C) := by
  obtain ⟨comp, c, k, h1, -, h3, h4, h5⟩ := Cond.arrayOver_spec h
  exact ⟨c, fun n z => ⟨(fun k h => by cases h), k, h3, comp, h4⟩, k, comp, h3, h4, h1, h5⟩

set_option maxHeartbeats 4000000 in
set_option maxRecDepth 100000 in
theorem ev_start {s : State} {b : Nat} (hts : ∀ w ∈ lw_tbl, w.before #[Value.ref b] s = true) (hgv : (Jvm.Cond.and given_1 narrow_1).before #[Value.ref b] s = true) : ∃ G : Gl, Ev G s ∧ G.2.2.1 = s.heap.size := by
  have hbig : ∀ w ∈ big, w.before #[Value.ref b] s = true := fun w hw => hts w (big_tbl hw)
  have hs := flat_of_before _ hgv
  have hA : ∀ a : Nat, a < s.heap.size → ¬ (fun q : Nat => s.heap.size ≤ q) a := fun a h q => absurd q (Nat.not_le.mpr h)
  obtain ⟨c0, i0, k0⟩ := u_known (C := "java/util/ArrayList") (T := TA) (N := 3) (n := 3) hbig in_A (hbig _ mw_34)
  obtain ⟨c1, i1, k1⟩ := u_known (C := "BoxDrawer$Box") (T := TX) (N := 5) (n := 5) hbig in_X (hbig _ mw_108)
  obtain ⟨c2, i2, k2⟩ := u_known (C := "BoxDrawer") (T := TB) (N := 4) (n := 4) hbig in_B (hbig _ mw_26)
  obtain ⟨c3, i3, k3⟩ := u_known (C := "BoxDrawerModel") (T := TM) (N := 8) (n := 8) hbig in_M (hbig _ mw_689)
  obtain ⟨aI, aI1, aI2⟩ := arr_kn (ty := .int) (by intro C h; cases h) (hbig _ mw_72)
  obtain ⟨aL, aL1, aL2⟩ := arr_kn (ty := .long) (by intro C h; cases h) (hbig _ mw_73)
  obtain ⟨aZ, aZ1, aZ2⟩ := arr_kn (ty := .boolean) (by intro C h; cases h) (hbig _ mw_719)
  obtain ⟨aQ, aQ1, aQ2⟩ := arr_kq (C := "java/lang/Object") (hts _ mt_559)
  have hlen : (Term.length (Term.static "java/util/ArrayList" eN "[Ljava/lang/Object;")).eval #[Value.ref b] s none [] s = some (.int (Int32.ofNat 0)) := Cond.eq_int (hs (Cond.eq (Term.length (Term.static "java/util/ArrayList" eN "[Ljava/lang/Object;")) (Term.int 0)) (by decide +kernel)) rfl
  obtain ⟨e0, he0, hT⟩ := va_Tof (tm := (Term.static "java/util/ArrayList" eN "[Ljava/lang/Object;")) (ty := .object "java/lang/Object") (N := 0) (f := fun _ => .null) (A := fun q => s.heap.size ≤ q) (by decide) (hs _ (by decide +kernel)) hlen (fun j hj => absurd hj (Nat.not_lt_zero _)) hA
  obtain ⟨mi, hmi⟩ := va_Mi.of (C := "[Ljava/lang/Object;") (hs _ (by decide +kernel))
  refine ⟨((fun k => if k = 0 then c0 else if k = 1 then c1 else if k = 2 then c2 else c3, fun k => if k = 0 then i0 else if k = 1 then i1 else if k = 2 then i2 else i3), (aI, aL, aZ, aQ), s.heap.size, e0, mi), ⟨⟨?_, ?_⟩, ?_, hT, ?_, ?_, ?_, ?_, va_AO.of (hts _ mt_559), hmi, va_Dc.of (hts _ mt_827), va_Nc.of (hs (Cond.not (.castable "java/lang/IllegalArgumentException" "java/lang/IndexOutOfBoundsException")) (by decide +kernel)), va_Nc.of (hs (Cond.not (.castable "java/lang/IllegalStateException" "java/lang/IndexOutOfBoundsException")) (by decide +kernel)), Nat.le_refl _⟩, rfl⟩
  · intro k q hq
    match k, hq with
    | 0, hq => cases hq; exact k0
    | 1, hq => cases hq; exact k1
    | 2, hq => cases hq; exact k2
    | 3, hq => cases hq; exact k3
    | k + 4, hq => simp [kls] at hq
  · intro k q hq
    match k, hq with
    | 0, hq => cases hq; exact ⟨aI1, aI2⟩
    | 1, hq => cases hq; exact ⟨aL1, aL2⟩
    | 2, hq => cases hq; exact ⟨aZ1, aZ2⟩
    | 3, hq => cases hq; exact ⟨aQ1, aQ2⟩
    | k + 4, hq => simp [gtys] at hq
  · exact va_Zof (hts (Cond.laysStatic "java/util/ArrayList" eN "[Ljava/lang/Object;") (tab_of 46 rfl)) (hbig _ mw_4) he0 hA
  · exact vx_Zqof (hts (Cond.laysStatic Bundle.tN "UNASSIGNED_STACK" Bundle.steD) (tab_of 181 rfl)) (hbig _ mw_6) (hs _ (by decide +kernel)) hA
  · exact vx_Zqof (hts (Cond.laysStatic Bundle.tN "SUPPRESSED_SENTINEL" Bundle.listD) (tab_of 183 rfl)) (hbig _ mw_6) (hs _ (by decide +kernel)) hA
  · have hst : ∀ (k : Nat) (tx : String), Cond.stringRef "BoxDrawer" k tx ∈ lw_tbl → (Cond.exactly (Term.string "BoxDrawer" k) "java/lang/String").before #[Value.ref b] s = true → ∃ sa : Nat, vk_R "BoxDrawer" k tx sa s := fun k tx h1 h2 => by
      obtain ⟨a, _, _, _, h3, _⟩ := Cond.exactly_spec h2
      exact ⟨a, vk_R.of (hts _ h1) h3⟩
    intro q hq
    simp only [strs, List.mem_cons, List.not_mem_nil, or_false] at hq
    rcases hq with rfl | rfl | rfl | rfl | rfl | rfl | rfl | rfl | rfl
    · exact hst _ _ mt_195 (hs _ (by decide +kernel))
    · exact hst _ _ mt_239 (hs _ (by decide +kernel))
    · exact hst _ _ mt_246 (hs _ (by decide +kernel))
    · exact hst _ _ mt_586 (hs _ (by decide +kernel))
    · exact hst _ _ mt_601 (hs _ (by decide +kernel))
    · exact hst _ _ mt_633 (hs _ (by decide +kernel))
    · exact hst _ _ mt_645 (hs _ (by decide +kernel))
    · exact hst _ _ mt_659 (hs _ (by decide +kernel))
    · exact hst _ _ mt_680 (hs _ (by decide +kernel))
  · intro w hw
    refine va_Nw.of (nb_on w hw) (hts w ?_)
    simp only [nbw, List.mem_cons, List.not_mem_nil, or_false] at hw
    rcases hw with rfl | rfl | rfl | rfl | rfl | rfl | rfl | rfl | rfl | rfl | rfl | rfl | rfl | rfl
    · exact mt_824
    · exact mt_830
    · exact mt_156
    · exact mt_232
    · exact mt_652
    · exact mt_158
    · exact mt_160
    · exact mt_162
    · exact mt_105
    · exact mt_247
    · exact mt_590
    · exact mt_606
    · exact mt_666
    · exact mt_252

set_option maxHeartbeats 4000000 in
set_option maxRecDepth 100000 in
theorem whole_start {p : Program} {e : Env} {s : State} {m : MethodId} {below : List Frame} {meth : Method} {c : Code} (l : Launch) (hlt : l.stackTraces = false) {b L : Nat} {xs : Nat → Int32} (hL : L ≤ 3072) (C0 : lw_At p s m meth c b L xs) : W p l e room_1 s m #[Value.ref b] below meth c s.heap [] 0 0 (lw_Z below #[Value.ref b] s) (entryFrame m ([Value.ref b] : List Value).toArray 8) := by
  obtain ⟨hx, hb, hr, hml, hown, hts, hX, hbl, hlocks, hgv⟩ := id C0
  obtain ⟨G, hE, hbase⟩ := ev_start hts hgv
  have C0 : Cx G p s m #[Value.ref b] c code 8 "BoxDrawerLaw" meth := ⟨hx, hb, hml, hown, fun w hw => hts w (big_tbl hw), hE, hlocks⟩
  have hA : ∀ q : Nat, s.heap.size ≤ q → gA G q := fun q h => (show G.2.2.1 ≤ q by rw [hbase]; exact h)
  have hbA : ¬ gA G b := fun q => absurd (show s.heap.size ≤ b by rw [← hbase]; exact q) (Nat.not_le.mpr hbl)
  have hS : va_S (gA G) s.heap s.heap [] := va_S.rf
  obtain ⟨w, ew0⟩ : ∃ z : World, z = fun _ => none := ⟨_, rfl⟩
  have hH : Hw G w s.heap := by rw [ew0]; exact Hd.nil
  have hl := lv_entry ([.ref b]) (n := 8) (Nat.le_of_ble_eq_true rfl)
  rw [lg_entry_eq]
  generalize (lg_sl ([.ref b]) ++ List.replicate (8 - (lg_sl ([.ref b])).length) Slot.unset).toArray = ls at hl ⊢
  have hl : lv_has ls 8 [(0, .ref b)] := hl
  refine hd_new (ci := 2) (fs := [.null, .null, .int 0, .null]) hx hb C0.2.2.2.2.1 in_B tyB tyB_ok C0.2.2.2.1 (C0.2.2.2.2.1 _ mw_25) (C0.2.2.2.2.1 _ mw_26) (C0.2.2.2.2.1 _ mw_1) C0.hK hH hS hA rfl (fun j hj => by rcases (show j = 0 ∨ j = 1 ∨ j = 2 ∨ j = 3 by omega) with rfl | rfl | rfl | rfl <;> rfl) (by show _ ≤ 601024; omega) (by show _ ≤ 7293034; omega) d_L_law_0 (fun q0 H hnq0 hH hS => ?_)
  obtain ⟨w1, ew1⟩ : ∃ z : World, z = va_up w q0 (some (.inr (2, [.null, .null, .int 0, .null]))) := ⟨_, rfl⟩
  have hH : Hw G w1 H := by rw [ew1]; exact hH
  have hw1_q0 : w1 q0 = some (.inr (2, [.null, .null, .int 0, .null])) := by rw [ew1]; exact va_up_self _ _ _
  refine lv_dup hx hb d_L_law_3 rfl ?_
  refine gn_v (runI C0 (k_B_init l G w1 hw1_q0) (cs_L_46 C0 ⟨Nat.le_of_ble_eq_true rfl, Nat.le_of_ble_eq_true rfl⟩) hH hS rfl hl.1 rfl (lv_room (Nat.le_of_ble_eq_true rfl)) d_L_law_4 ⟨by show _ ≤ 601024; omega, by show _ ≤ 7293034; omega⟩) hS (fun w2 H locs hp2 hH hS => ?_)
  obtain ⟨L9, F, Gd, hnL, hnF, hnG, nLF, nLG, nFG, hx2, hL2, hF2, hG2, hK2⟩ := hp2
  refine lv_astore_n (lv' := [(1, .ref q0), (0, .ref b)]) hx hb d_L_law_7 rfl hl (by decide) rfl (fun ls hl => ?_)
  refine hd_new (ci := 3) (fs := [.int 0, .null, .null, .null, .null, .null, .int 0, .null]) hx hb C0.2.2.2.2.1 in_M tyM tyM_ok C0.2.2.2.1 (C0.2.2.2.2.1 _ mw_688) (C0.2.2.2.2.1 _ mw_689) (C0.2.2.2.2.1 _ mw_5) C0.hK hH hS hA rfl (fun j hj => by rcases (show j = 0 ∨ j = 1 ∨ j = 2 ∨ j = 3 ∨ j = 4 ∨ j = 5 ∨ j = 6 ∨ j = 7 by omega) with rfl | rfl | rfl | rfl | rfl | rfl | rfl | rfl <;> rfl) (by show _ ≤ 601024; omega) (by show _ ≤ 7293034; omega) d_L_law_8 (fun q8 H hnq8 hH hS => ?_)
  obtain ⟨w3, ew3⟩ : ∃ z : World, z = va_up w2 q8 (some (.inr (3, [.int 0, .null, .null, .null, .null, .null, .int 0, .null]))) := ⟨_, rfl⟩
  have hH : Hw G w3 H := by rw [ew3]; exact hH
  have hw3_q0 : w3 q0 = some (.inr (2, [.ref L9, .ref F, .int (nI 0), .ref Gd])) := by rw [ew3, va_up_ne _ _ (wnf hx2 hnq8)]; exact hx2
  have hw3_L9 : w3 L9 = some (.inr (0, [.int 0, .ref (ge0 G), .int (nI 0)])) := by rw [ew3, va_up_ne _ _ (wnf hL2 hnq8)]; exact hL2
  have hw3_F : w3 F = some (.inl (G.2.1.1, 16, .inl (fun _ => 0))) := by rw [ew3, va_up_ne _ _ (wnf hF2 hnq8)]; exact hF2
  have hw3_Gd : w3 Gd = some (.inl (G.2.1.2.1, 16, .inr (.inl (fun _ => 0)))) := by rw [ew3, va_up_ne _ _ (wnf hG2 hnq8)]; exact hG2
  have hw3_q8 : w3 q8 = some (.inr (3, [.int 0, .null, .null, .null, .null, .null, .int 0, .null])) := by rw [ew3]; exact va_up_self _ _ _
  refine lv_dup hx hb d_L_law_11 rfl ?_
  refine gn_v (runI C0 (k_M_init l G w3 hw3_q8) (cs_L_49 C0 ⟨Nat.le_of_ble_eq_true rfl, Nat.le_of_ble_eq_true rfl⟩) hH hS rfl hl.1 rfl (lv_room (Nat.le_of_ble_eq_true rfl)) d_L_law_12 ⟨by show _ ≤ 601024; omega, by show _ ≤ 7293034; omega⟩) hS (fun w4 H locs hp4 hH hS => ?_)
  obtain ⟨aT, aX, aY, aU, aV, aR, fT, fX, fY, fU, fV, fR, hM4, hK4⟩ := hp4
  obtain ⟨hY4, hT4, hX4, hYy4, hU4, hV4, hR4, hDi⟩ := id hM4
  have hw4_q0 : w4 q0 = some (.inr (2, [.ref L9, .ref F, .int (nI 0), .ref Gd])) := hK4 _ _ hw3_q0 (fun hm => wne hw3_q0 hw3_q8 (by simp) (List.mem_singleton.mp hm))
  have hw4_L9 : w4 L9 = some (.inr (0, [.int 0, .ref (ge0 G), .int (nI 0)])) := hK4 _ _ hw3_L9 (fun hm => wne hw3_L9 hw3_q8 (by simp) (List.mem_singleton.mp hm))
  have hw4_F : w4 F = some (.inl (G.2.1.1, 16, .inl (fun _ => 0))) := hK4 _ _ hw3_F (fun hm => wne hw3_F hw3_q8 (by simp) (List.mem_singleton.mp hm))
  have hw4_Gd : w4 Gd = some (.inl (G.2.1.2.1, 16, .inr (.inl (fun _ => 0)))) := hK4 _ _ hw3_Gd (fun hm => wne hw3_Gd hw3_q8 (by simp) (List.mem_singleton.mp hm))
  have nF_aT : F ≠ aT := wnf hw3_F fT
  have nF_aX : F ≠ aX := wnf hw3_F fX
  have nF_aY : F ≠ aY := wnf hw3_F fY
  have nF_aU : F ≠ aU := wnf hw3_F fU
  have nF_aV : F ≠ aV := wnf hw3_F fV
  have nF_aR : F ≠ aR := wnf hw3_F fR
  refine lv_astore_n (lv' := [(2, .ref q8), (1, .ref q0), (0, .ref b)]) hx hb d_L_law_15 rfl hl (by decide) rfl (fun ls hl => ?_)
  refine lv_iconst (v := 1) hx hb d_L_law_16 (by decide) ?_
  refine hd_newa (atype := .long) (N' := 1) (a0 := (1, .inr (.inl (fun _ => 0)))) hx hb (C0.2.2.2.2.1 _ mw_73) rfl (by intro C h; cases h) C0.hK 1 rfl hH hS hA (fun _ => rfl) (by decide) (by decide) (by show _ * 8 ≤ _; omega) (by show _ ≤ 601024; omega) (by show _ ≤ 7293034; omega) d_L_law_17 (fun q17 H hnq17 hH hS => ?_)
  obtain ⟨w5, ew5⟩ : ∃ z : World, z = va_up w4 q17 (some (.inl (G.2.1.2.1, 1, .inr (.inl (fun _ => 0))))) := ⟨_, rfl⟩
  have hH : Hw G w5 H := by rw [ew5]; exact hH
  have hw5_q0 : w5 q0 = some (.inr (2, [.ref L9, .ref F, .int (nI 0), .ref Gd])) := by rw [ew5, va_up_ne _ _ (wnf hw4_q0 hnq17)]; exact hw4_q0
  have hw5_L9 : w5 L9 = some (.inr (0, [.int 0, .ref (ge0 G), .int (nI 0)])) := by rw [ew5, va_up_ne _ _ (wnf hw4_L9 hnq17)]; exact hw4_L9
  have hw5_q8 : w5 q8 = some (.inr (3, [.int 0, .ref aT, .ref aX, .ref aY, .ref aU, .ref aV, .int (nI 0), .ref aR])) := by rw [ew5, va_up_ne _ _ (wnf hY4 hnq17)]; exact hY4
  have hw5_F : w5 F = some (.inl (G.2.1.1, 16, .inl (fun _ => 0))) := by rw [ew5, va_up_ne _ _ (wnf hw4_F hnq17)]; exact hw4_F
  have hw5_Gd : w5 Gd = some (.inl (G.2.1.2.1, 16, .inr (.inl (fun _ => 0)))) := by rw [ew5, va_up_ne _ _ (wnf hw4_Gd hnq17)]; exact hw4_Gd
  have hw5_aT : w5 aT = some (.inl (G.2.1.2.2.1, 4096, .inl (fun _ => 0))) := by rw [ew5, va_up_ne _ _ (wnf hT4 hnq17)]; exact hT4
  have hw5_aX : w5 aX = some (.inl (G.2.1.1, 4096, .inl (fun _ => 0))) := by rw [ew5, va_up_ne _ _ (wnf hX4 hnq17)]; exact hX4
  have hw5_aY : w5 aY = some (.inl (G.2.1.1, 4096, .inl (fun _ => 0))) := by rw [ew5, va_up_ne _ _ (wnf hYy4 hnq17)]; exact hYy4
  have hw5_aU : w5 aU = some (.inl (G.2.1.1, 4096, .inl (fun _ => 0))) := by rw [ew5, va_up_ne _ _ (wnf hU4 hnq17)]; exact hU4
  have hw5_aV : w5 aV = some (.inl (G.2.1.1, 4096, .inl (fun _ => 0))) := by rw [ew5, va_up_ne _ _ (wnf hV4 hnq17)]; exact hV4
  have hw5_aR : w5 aR = some (.inl (G.2.1.1, 4096, .inl (fun _ => 0))) := by rw [ew5, va_up_ne _ _ (wnf hR4 hnq17)]; exact hR4
  have hw5_q17 : w5 q17 = some (.inl (G.2.1.2.1, 1, .inr (.inl (fun _ => 0)))) := by rw [ew5]; exact va_up_self _ _ _
  refine lv_astore_n (lv' := [(3, .ref q17), (2, .ref q8), (1, .ref q0), (0, .ref b)]) hx hb d_L_law_19 rfl hl (by decide) rfl (fun ls hl => ?_)
  refine lv_iconst (v := 0) hx hb d_L_law_20 (by decide) ?_
  refine lv_istore (lv' := [(4, .int 0), (3, .ref q17), (2, .ref q8), (1, .ref q0), (0, .ref b)]) hx hb d_L_law_21 hl (by decide) rfl (fun ls hl => ?_)
  have hbz : bl (fun _ => (0 : Int32)) (fun _ => (0 : Int32)) (fun _ => (0 : Int32)) (fun _ => (0 : Int32)) (fun _ => (0 : Int32)) 0 4096 = [] := bl_zero 0 4096 (fun _ _ _ => rfl)
  have hD9 : DAt G w5 q0 L9 (ge0 G) F Gd [] [] 16 := ⟨hw5_q0, ⟨0, fun _ => none, 0, ⟨hw5_L9, Nat.le_refl _, by decide, Or.inl ⟨rfl, rfl⟩, fun i hi => absurd hi (Nat.not_lt_zero _)⟩, Or.inl ⟨rfl, rfl⟩⟩, ⟨_, hw5_F, fun i hi => absurd hi (Nat.not_lt_zero _)⟩, ⟨16, _, hw5_Gd, by decide⟩, Nat.zero_le _, by decide, by decide⟩
  have hI9 : LI G w5 q0 q8 q17 0 (fun _ => 0) := ⟨L9, ge0 G, F, Gd, 16, aT, aX, aY, aU, aV, aR, fun _ => 0, fun _ => 0, fun _ => 0, fun _ => 0, fun _ => 0, fun _ => 0, [], ⟨by rw [hbz]; exact hD9, ⟨hw5_q8, hw5_aT, hw5_aX, hw5_aY, hw5_aU, hw5_aV, hw5_aR, hDi⟩, hw5_q17, ⟨nF_aT, nF_aX, nF_aY, nF_aU, nF_aV, nF_aR⟩, (wnf hw4_Gd hnq17).symm⟩, fun i hi => absurd hi (Nat.not_lt_zero _), fun _ => Or.inl rfl, fun i hi => absurd rfl hi⟩
  exact law_loop l hlt hL C0 hr hX hbl hbase hbA L 0 (by omega) (by omega) w5 0 _ H locs _ _ hH hS hI9 (by omega) (by omega) ls (lv_sub hl [4, 3, 2, 1, 0] rfl)
