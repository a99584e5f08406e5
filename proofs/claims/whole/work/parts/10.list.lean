/-! the list of boxes, sorted by number; where a number stands in it -/
/-- an ArrayList at L holds the boxes bs -/
def LsAt (G : Gl) (w : World) (L E N : Nat) (f : Nat → Option Nat) (md : Int32) (bs : List Bx) : Prop :=
  w L = some (.inr (0, [.int md, .ref E, .int (nI bs.length)])) ∧ bs.length ≤ N ∧ N ≤ 100000 ∧ ((E = ge0 G ∧ N = 0) ∨ w E = some (.inl (G.2.1.2.2.2, N, .inr (.inr (.inr (.inr f)))))) ∧ ∀ (i : Nat) (h : i < bs.length), ∃ x : Nat, f i = some x ∧ w x = some (.inr (1, bxf bs[i]))
theorem LsAt.arr {G : Gl} {w : World} {L E N : Nat} {f : Nat → Option Nat} {md : Int32} {bs : List Bx} (h : LsAt G w L E N f md bs) (h0 : 0 < bs.length) : w E = some (.inl (G.2.1.2.2.2, N, .inr (.inr (.inr (.inr f))))) := by
  obtain ⟨-, h2, -, h4, -⟩ := h
  rcases h4 with ⟨-, rfl⟩ | h4
  · omega
  · exact h4
/-- k is where n stands, or would have to stand -/
def Lb (bs : List Bx) (n : Int32) (k : Nat) : Prop := k ≤ bs.length ∧ (∀ (i : Nat) (h : i < bs.length), i < k → bs[i].1 < n) ∧ ∀ (i : Nat) (h : i < bs.length), k ≤ i → ¬ bs[i].1 < n
theorem Lb.uniq {bs : List Bx} {n : Int32} {j k : Nat} (h1 : Lb bs n j) (h2 : Lb bs n k) : j = k := by
  obtain ⟨a1, a2, a3⟩ := h1
  obtain ⟨b1, b2, b3⟩ := h2
  rcases Nat.lt_trichotomy j k with h | h | h
  · exact absurd (b2 j (by omega) h) (a3 j (by omega) (Nat.le_refl _))
  · exact h
  · exact absurd (a2 k (by omega) h) (b3 k (by omega) (Nat.le_refl _))
def Srt (bs : List Bx) : Prop := ∀ (i j : Nat) (hi : i < bs.length) (hj : j < bs.length), i < j → bs[i].1 < bs[j].1
theorem mid_v {a b : Nat} (h : a + b < 2 ^ 31) : ((nI a + nI b).toUInt32 >>> ((1 : Int32).toUInt32 &&& Int32.toUInt32 31)).toInt32 = nI ((a + b) / 2) := by
  rw [nI_add]
  exact pk_ushrN (by omega) 1 1 (by decide)
theorem i32_lt_trans {a b c : Int32} (h1 : a < b) (h2 : b < c) : a < c := Int32.lt_iff_toInt_lt.mpr (Int.lt_trans (Int32.lt_iff_toInt_lt.mp h1) (Int32.lt_iff_toInt_lt.mp h2))
theorem i32_nlt_of {a b c : Int32} (h1 : ¬ a < c) (h2 : a < b) : ¬ b < c := fun h => h1 (i32_lt_trans h2 h)

set_option maxHeartbeats 4000000 in
set_option maxRecDepth 100000 in
theorem k_B_indexFor (l : Launch) (G : Gl) (w : World) {x L F Gd E N : Nat} {nF md : Int32} {f : Nat → Option Nat} {bs : List Bx} (n : Int32) (k : Nat) (hB : w x = some (.inr (2, [.ref L, .ref F, .int nF, .ref Gd]))) (hLs : LsAt G w L E N f md bs) (hs : Srt bs) (hk : Lb bs n k) :
    PuM l y_B_indexFor ws_B_indexFor 3 G w [.ref x, .int n] (some (.int (nI k))) := by
  refine met_ent (by decide +kernel) (Nat.le_of_ble_eq_true rfl) (fun p e s m below meth c ls C0 hr hin hH hl => ?_)
  have hx := C0.1
  have hb := C0.2.1
  have hS : va_S (gA G) s.heap s.heap [] := va_S.rf
  have hl : lv_has ls 5 [(0, .ref x), (1, .int n)] := hl
  obtain ⟨hL1, hL2, hL3, hL4, hL5⟩ := id hLs
  refine lv_iconst (v := 0) hx hb d_B_indexFor_0 (by decide) ?_
  refine lv_istore_n (lv' := [(2, .int 0), (0, .ref x), (1, .int n)]) hx hb d_B_indexFor_1 rfl hl (by decide) rfl (fun ls hl => ?_)
  refine lv_aload_n hx hb d_B_indexFor_2 rfl (lv_at hl 1 rfl) ?_
  refine gf_B_10 C0 hH hB rfl d_B_indexFor_3 ?_
  refine pu_v (runV C0 (k_A_size l G w hL1) (cs_B_61 C0 ⟨by decide, by decide⟩) hH hS (hd_recv C0.hK hH rfl hL1) rfl hl.1 rfl (lv_room (Nat.le_of_ble_eq_true rfl)) d_B_indexFor_6 ⟨Nat.zero_le _, Nat.zero_le _⟩) ?_
  refine lv_istore_n (lv' := [(3, .int (nI bs.length)), (2, .int 0), (0, .ref x), (1, .int n)]) hx hb d_B_indexFor_9 rfl hl (by decide) rfl (fun ls hl => ?_)
  have loop : ∀ (u fr to : Nat), to < fr + u → fr ≤ to → to ≤ bs.length → (∀ (i : Nat) (h : i < bs.length), i < fr → bs[i].1 < n) → (∀ (i : Nat) (h : i < bs.length), to ≤ i → ¬ bs[i].1 < n) → ∀ ls : Array Slot, lv_has ls 5 [(0, .ref x), (1, .int n), (2, .int (nI fr)), (3, .int (nI to))] → W p l e (rmK 3 0 0) s m [.ref x, .int n].toArray below meth c s.heap [] 0 0 (MQ below (PuQ (some (.int (nI k)))) [.ref x, .int n].toArray s 0 0 (fun _ => False)) (F0 m 10 ls []) := by
    intro u
    induction u with
    | zero => intro fr to h1 h2; exact absurd h1 (by omega)
    | succ u ih =>
      intro fr to hu hft htl hlo hhi ls hl
      refine lv_iload_n hx hb d_B_indexFor_10 rfl (lv_at hl 2 rfl) ?_
      refine lv_iload_n hx hb d_B_indexFor_11 rfl (lv_at hl 3 rfl) ?_
      refine lv_icmp_ge (tgt := 55) hx hb d_B_indexFor_12 (by decide) (fun c_12 => ?_) (fun c_12 => ?_)
      · refine lv_iload_n hx hb d_B_indexFor_55 rfl (lv_at hl 2 rfl) ?_
        exact W.iret hx hb hr (fun t ht _ => ⟨congrArg (fun z => Outcome.returned (some (Value.int z))) (congrArg nI (Lb.uniq ⟨Nat.le_trans hft htl, hlo, fun i h h2 => hhi i h (Nat.le_trans (Nat.le_of_not_lt (fun h3 => absurd c_12 (Int32.not_le.mpr (nI_lt h3 (by omega))))) h2)⟩ hk)), ht⟩) (fun _ h => by cases h) d_B_indexFor_56 (hlocks := C0.2.2.2.2.2.2)
      · have hlt : fr < to := Nat.not_le.mp (fun h => c_12 (nI_le h (by omega)))
        refine lv_iload_n hx hb d_B_indexFor_15 rfl (lv_at hl 2 rfl) ?_
        refine lv_iload_n hx hb d_B_indexFor_16 rfl (lv_at hl 3 rfl) ?_
        refine lv_iadd hx hb d_B_indexFor_17 ?_
        refine lv_iconst (v := 1) hx hb d_B_indexFor_18 (by decide) ?_
        refine lv_iushr hx hb d_B_indexFor_19 (mid_v (by omega)) ?_
        refine lv_istore (lv' := [(4, .int (nI ((fr + to) / 2))), (0, .ref x), (1, .int n), (2, .int (nI fr)), (3, .int (nI to))]) hx hb d_B_indexFor_20 hl (by decide) rfl (fun ls hl => ?_)
        refine lv_aload_n hx hb d_B_indexFor_22 rfl (lv_at hl 1 rfl) ?_
        refine gf_B_10 C0 hH hB rfl d_B_indexFor_23 ?_
        refine lv_iload hx hb d_B_indexFor_26 (lv_at hl 0 rfl) ?_
        obtain ⟨xm, hf_xm, h_xm⟩ := hL5 ((fr + to) / 2) (by omega)
        refine pu_v (runV C0 (k_A_get l G w hL1 (hLs.arr (by omega)) (i := (fr + to) / 2) (by omega) hL2 (by omega) hf_xm) (cs_B_75 C0 ⟨by decide, by decide⟩) hH hS (hd_recv C0.hK hH rfl hL1) rfl hl.1 rfl (lv_room (Nat.le_of_ble_eq_true rfl)) d_B_indexFor_28 ⟨Nat.zero_le _, Nat.zero_le _⟩) ?_
        refine va_castY hx hb C0.2.2.2.1 (C0.2.2.2.2.1 _ mw_104) (C0.ev.2.2.2.2.2.2.1 (Cond.castable "BoxDrawer$Box" "BoxDrawer$Box") (by decide +kernel)) (hd_recv C0.hK hH rfl h_xm) d_B_indexFor_31 ?_
        refine gf_B_82 C0 hH h_xm rfl d_B_indexFor_34 ?_
        refine lv_iload_n hx hb d_B_indexFor_37 rfl (lv_at hl 2 rfl) ?_
        refine lv_icmp_ge (tgt := 49) hx hb d_B_indexFor_38 (by decide) (fun c_38 => ?_) (fun c_38 => ?_)
        · refine lv_iload hx hb d_B_indexFor_49 (lv_at hl 0 rfl) ?_
          refine lv_istore_n (lv' := [(3, .int (nI ((fr + to) / 2))), (4, .int (nI ((fr + to) / 2))), (0, .ref x), (1, .int n), (2, .int (nI fr))]) hx hb d_B_indexFor_51 rfl hl (by decide) rfl (fun ls hl => ?_)
          refine lv_goto (tgt := 10) hx hb d_B_indexFor_52 (by decide) ?_
          refine ih fr ((fr + to) / 2) (by omega) (by omega) (by omega) hlo (fun i h h2 => ?_) ls (lv_sub hl [2, 3, 4, 0] rfl)
          rcases Nat.lt_or_eq_of_le h2 with h3 | h3
          · exact i32_nlt_of (Int32.not_lt.mpr c_38) (hs _ i (by omega) h h3)
          · subst h3; exact Int32.not_lt.mpr c_38
        · refine lv_iload hx hb d_B_indexFor_41 (lv_at hl 0 rfl) ?_
          refine lv_iconst (v := 1) hx hb d_B_indexFor_43 (by decide) ?_
          refine lv_iadd hx hb d_B_indexFor_44 ?_
          rw [nI_1]
          refine lv_istore_n (lv' := [(2, .int (nI ((fr + to) / 2 + 1))), (4, .int (nI ((fr + to) / 2))), (0, .ref x), (1, .int n), (3, .int (nI to))]) hx hb d_B_indexFor_45 rfl hl (by decide) rfl (fun ls hl => ?_)
          refine lv_goto (tgt := 52) hx hb d_B_indexFor_46 (by decide) ?_
          refine lv_goto (tgt := 10) hx hb d_B_indexFor_52 (by decide) ?_
          refine ih ((fr + to) / 2 + 1) to (by omega) (by omega) htl (fun i h h2 => ?_) hhi ls (lv_sub hl [2, 3, 0, 4] rfl)
          rcases Nat.lt_or_eq_of_le (Nat.le_of_lt_succ h2) with h3 | h3
          · exact i32_lt_trans (hs i _ h (by omega) h3) (Int32.not_le.mp c_38)
          · subst h3; exact Int32.not_le.mp c_38
  exact loop (bs.length + 1) 0 bs.length (by omega) (Nat.zero_le _) (Nat.le_refl _) (fun i h h2 => absurd h2 (Nat.not_lt_zero _)) (fun i h h2 => absurd h (by omega)) ls (lv_sub hl [2, 3, 1, 0] rfl)

set_option maxHeartbeats 4000000 in
set_option maxRecDepth 100000 in
theorem k_B_isAt (l : Launch) (G : Gl) (w : World) {x L F Gd E N : Nat} {nF md : Int32} {f : Nat → Option Nat} {bs : List Bx} (k : Nat) (n : Int32) (hk9 : k ≤ bs.length) (hB : w x = some (.inr (2, [.ref L, .ref F, .int nF, .ref Gd]))) (hLs : LsAt G w L E N f md bs) :
    PuM l y_B_isAt ws_B_isAt 3 G w [.ref x, .int (nI k), .int n] (some (.int (b01 (∃ h : k < bs.length, bs[k].1 = n)))) := by
  refine met_ent (by decide +kernel) (Nat.le_of_ble_eq_true rfl) (fun p e s m below meth c ls C0 hr hin hH hl => ?_)
  have hx := C0.1
  have hb := C0.2.1
  have hS : va_S (gA G) s.heap s.heap [] := va_S.rf
  have hl : lv_has ls 3 [(0, .ref x), (1, .int (nI k)), (2, .int n)] := hl
  obtain ⟨hL1, hL2, hL3, hL4, hL5⟩ := id hLs
  refine lv_iload_n hx hb d_B_isAt_0 rfl (lv_at hl 1 rfl) ?_
  refine lv_if_lt (tgt := 37) hx hb d_B_isAt_1 (by decide) (fun c_1 => ?_) (fun c_1 => ?_)
  · refine lv_iconst (v := 0) hx hb d_B_isAt_37 (by decide) ?_
    exact W.zret hx hb hr rfl (fun t ht _ => ⟨congrArg (fun z => Outcome.returned (some (Value.int z))) (b01_f (fun _ => nI_pos (by omega) c_1)).symm, ht⟩) (fun _ h => by cases h) d_B_isAt_38 (hlocks := C0.2.2.2.2.2.2)
  · refine lv_iload_n hx hb d_B_isAt_4 rfl (lv_at hl 1 rfl) ?_
    refine lv_aload_n hx hb d_B_isAt_5 rfl (lv_at hl 0 rfl) ?_
    refine gf_B_10 C0 hH hB rfl d_B_isAt_6 ?_
    refine pu_v (runV C0 (k_A_size l G w hL1) (cs_B_61 C0 ⟨by decide, by decide⟩) hH hS (hd_recv C0.hK hH rfl hL1) rfl hl.1 rfl (lv_room (Nat.le_of_ble_eq_true rfl)) d_B_isAt_9 ⟨Nat.zero_le _, Nat.zero_le _⟩) ?_
    refine lv_icmp_ge (tgt := 37) hx hb d_B_isAt_12 (by decide) (fun c_12 => ?_) (fun c_12 => ?_)
    · refine lv_iconst (v := 0) hx hb d_B_isAt_37 (by decide) ?_
      exact W.zret hx hb hr rfl (fun t ht _ => ⟨congrArg (fun z => Outcome.returned (some (Value.int z))) (b01_f (fun ⟨h1, _⟩ => absurd c_12 (Int32.not_le.mpr (nI_lt h1 (by omega))))).symm, ht⟩) (fun _ h => by cases h) d_B_isAt_38 (hlocks := C0.2.2.2.2.2.2)
    · have hk : k < bs.length := Nat.not_le.mp (fun h => c_12 (nI_le h (by omega)))
      refine lv_aload_n hx hb d_B_isAt_15 rfl (lv_at hl 0 rfl) ?_
      refine gf_B_10 C0 hH hB rfl d_B_isAt_16 ?_
      refine lv_iload_n hx hb d_B_isAt_19 rfl (lv_at hl 1 rfl) ?_
      obtain ⟨xm, hf_xm, h_xm⟩ := hL5 k (hk)
      refine pu_v (runV C0 (k_A_get l G w hL1 (hLs.arr (by omega)) (i := k) (by omega) hL2 (by omega) hf_xm) (cs_B_75 C0 ⟨by decide, by decide⟩) hH hS (hd_recv C0.hK hH rfl hL1) rfl hl.1 rfl (lv_room (Nat.le_of_ble_eq_true rfl)) d_B_isAt_20 ⟨Nat.zero_le _, Nat.zero_le _⟩) ?_
      refine va_castY hx hb C0.2.2.2.1 (C0.2.2.2.2.1 _ mw_104) (C0.ev.2.2.2.2.2.2.1 (Cond.castable "BoxDrawer$Box" "BoxDrawer$Box") (by decide +kernel)) (hd_recv C0.hK hH rfl h_xm) d_B_isAt_23 ?_
      refine gf_B_82 C0 hH h_xm rfl d_B_isAt_26 ?_
      refine lv_iload_n hx hb d_B_isAt_29 rfl (lv_at hl 2 rfl) ?_
      refine lv_icmp_ne (tgt := 37) hx hb d_B_isAt_30 (by decide) (fun c_30 => ?_) (fun c_30 => ?_)
      · refine lv_iconst (v := 0) hx hb d_B_isAt_37 (by decide) ?_
        exact W.zret hx hb hr rfl (fun t ht _ => ⟨congrArg (fun z => Outcome.returned (some (Value.int z))) (b01_f (fun ⟨_, h⟩ => c_30 h)).symm, ht⟩) (fun _ h => by cases h) d_B_isAt_38 (hlocks := C0.2.2.2.2.2.2)
      · refine lv_iconst (v := 1) hx hb d_B_isAt_33 (by decide) ?_
        refine lv_goto (tgt := 38) hx hb d_B_isAt_34 (by decide) ?_
        exact W.zret hx hb hr rfl (fun t ht _ => ⟨congrArg (fun z => Outcome.returned (some (Value.int z))) (b01_t ⟨hk, c_30⟩).symm, ht⟩) (fun _ h => by cases h) d_B_isAt_38 (hlocks := C0.2.2.2.2.2.2)

set_option maxHeartbeats 4000000 in
set_option maxRecDepth 100000 in
theorem k_B_requireBox (l : Launch) (G : Gl) (w : World) {x L F Gd E N : Nat} {nF md : Int32} {f : Nat → Option Nat} {bs : List Bx} (n : Int32) (k xk : Nat) (hB : w x = some (.inr (2, [.ref L, .ref F, .int nF, .ref Gd]))) (hLs : LsAt G w L E N f md bs) (hs : Srt bs) (hk : Lb bs n k) (h : ∃ h : k < bs.length, bs[k].1 = n) (hxk : f k = some xk) :
    PuM l y_B_requireBox ws_B_requireBox 4 G w [.ref x, .int n] (some (.ref xk)) := by
  refine met_ent (by decide +kernel) (Nat.le_of_ble_eq_true rfl) (fun p e s m below meth c ls C0 hr hin hH hl => ?_)
  have hx := C0.1
  have hb := C0.2.1
  have hS : va_S (gA G) s.heap s.heap [] := va_S.rf
  have hl : lv_has ls 3 [(0, .ref x), (1, .int n)] := hl
  obtain ⟨hL1, hL2, hL3, hL4, hL5⟩ := id hLs
  obtain ⟨hk1, -⟩ := id h
  refine lv_aload_n hx hb d_B_requireBox_0 rfl (lv_at hl 0 rfl) ?_
  refine lv_iload_n hx hb d_B_requireBox_1 rfl (lv_at hl 1 rfl) ?_
  refine pu_v (runV C0 (k_B_indexFor l G w n k hB hLs hs hk) (cs_B_41 C0 ⟨by decide, by decide⟩) hH hS (hd_recv C0.hK hH rfl hB) rfl hl.1 rfl (lv_room (Nat.le_of_ble_eq_true rfl)) d_B_requireBox_2 ⟨Nat.zero_le _, Nat.zero_le _⟩) ?_
  refine lv_istore_n (lv' := [(2, .int (nI k)), (0, .ref x), (1, .int n)]) hx hb d_B_requireBox_5 rfl hl (by decide) rfl (fun ls hl => ?_)
  refine lv_aload_n hx hb d_B_requireBox_6 rfl (lv_at hl 1 rfl) ?_
  refine lv_iload_n hx hb d_B_requireBox_7 rfl (lv_at hl 0 rfl) ?_
  refine lv_iload_n hx hb d_B_requireBox_8 rfl (lv_at hl 2 rfl) ?_
  refine pu_v (runV C0 (k_B_isAt l G w k n hk.1 hB hLs) (cs_B_45 C0 ⟨by decide, by decide⟩) hH hS (hd_recv C0.hK hH rfl hB) rfl hl.1 rfl (lv_room (Nat.le_of_ble_eq_true rfl)) d_B_requireBox_9 ⟨Nat.zero_le _, Nat.zero_le _⟩) ?_
  refine lv_if_ne (tgt := 25) hx hb d_B_requireBox_12 (by decide) (fun c_12 => ?_) (fun c_12 => ?_)
  · refine lv_aload_n hx hb d_B_requireBox_25 rfl (lv_at hl 1 rfl) ?_
    refine gf_B_10 C0 hH hB rfl d_B_requireBox_26 ?_
    refine lv_iload_n hx hb d_B_requireBox_29 rfl (lv_at hl 0 rfl) ?_
    obtain ⟨xm, hf_xm, h_xm⟩ := hL5 k (hk1)
    refine pu_v (runV C0 (k_A_get l G w hL1 (hLs.arr (by omega)) (i := k) (by omega) hL2 (by omega) hf_xm) (cs_B_75 C0 ⟨by decide, by decide⟩) hH hS (hd_recv C0.hK hH rfl hL1) rfl hl.1 rfl (lv_room (Nat.le_of_ble_eq_true rfl)) d_B_requireBox_30 ⟨Nat.zero_le _, Nat.zero_le _⟩) ?_
    refine va_castY hx hb C0.2.2.2.1 (C0.2.2.2.2.1 _ mw_104) (C0.ev.2.2.2.2.2.2.1 (Cond.castable "BoxDrawer$Box" "BoxDrawer$Box") (by decide +kernel)) (hd_recv C0.hK hH rfl h_xm) d_B_requireBox_33 ?_
    exact W.aret hx hb hr (Or.inl ⟨_, rfl⟩) (Or.inr ⟨_, rfl⟩) (fun t ht _ => ⟨by rw [Option.some.inj (hxk.symm.trans hf_xm)], ht⟩) (fun _ h => by cases h) d_B_requireBox_36 (hlocks := C0.2.2.2.2.2.2)
  · exact absurd c_12 (by rw [b01_t h]; decide)

set_option maxHeartbeats 4000000 in
set_option maxRecDepth 100000 in
theorem t_B_requireBox (l : Launch) (hlt : l.stackTraces = false) (G : Gl) (w : World) {x L F Gd E N : Nat} {nF md : Int32} {f : Nat → Option Nat} {bs : List Bx} (n : Int32) (k : Nat) (hB : w x = some (.inr (2, [.ref L, .ref F, .int nF, .ref Gd]))) (hLs : LsAt G w L E N f md bs) (hs : Srt bs) (hk : Lb bs n k) (h : ¬ ∃ h : k < bs.length, bs[k].1 = n) :
    ThM l y_B_requireBox ws_B_requireBox 6 G w [.ref x, .int n] "java/lang/IndexOutOfBoundsException" := by
  refine th_ent (by decide +kernel) (Nat.le_of_ble_eq_true rfl) (fun p e s m below meth c ls C0 ht hH hl => ?_)
  have hx := C0.1
  have hb := C0.2.1
  have hS : va_S (gA G) s.heap s.heap [] := va_S.rf
  have hl : lv_has ls 3 [(0, .ref x), (1, .int n)] := hl
  obtain ⟨hL1, hL2, hL3, hL4, hL5⟩ := id hLs
  refine lv_aload_n hx hb d_B_requireBox_0 rfl (lv_at hl 0 rfl) ?_
  refine lv_iload_n hx hb d_B_requireBox_1 rfl (lv_at hl 1 rfl) ?_
  refine pu_v (runV C0 (k_B_indexFor l G w n k hB hLs hs hk) (cs_B_41 C0 ⟨by decide, by decide⟩) hH hS (hd_recv C0.hK hH rfl hB) rfl hl.1 rfl (lv_room (Nat.le_of_ble_eq_true rfl)) d_B_requireBox_2 ⟨Nat.zero_le _, Nat.zero_le _⟩) ?_
  refine lv_istore_n (lv' := [(2, .int (nI k)), (0, .ref x), (1, .int n)]) hx hb d_B_requireBox_5 rfl hl (by decide) rfl (fun ls hl => ?_)
  refine lv_aload_n hx hb d_B_requireBox_6 rfl (lv_at hl 1 rfl) ?_
  refine lv_iload_n hx hb d_B_requireBox_7 rfl (lv_at hl 0 rfl) ?_
  refine lv_iload_n hx hb d_B_requireBox_8 rfl (lv_at hl 2 rfl) ?_
  refine pu_v (runV C0 (k_B_isAt l G w k n hk.1 hB hLs) (cs_B_45 C0 ⟨by decide, by decide⟩) hH hS (hd_recv C0.hK hH rfl hB) rfl hl.1 rfl (lv_room (Nat.le_of_ble_eq_true rfl)) d_B_requireBox_9 ⟨Nat.zero_le _, Nat.zero_le _⟩) ?_
  refine lv_if_ne (tgt := 25) hx hb d_B_requireBox_12 (by decide) (fun c_12 => ?_) (fun c_12 => ?_)
  · exact absurd (b01_f h) c_12
  · exact th_throw (text := "the box is not there") hlt C0 (by decide +kernel) mw_154 mw_9 at_io og_io (by decide +kernel) hl.1 d_B_requireBox_15 d_B_requireBox_18 d_B_requireBox_19 d_B_requireBox_21 d_B_requireBox_24 ht (by decide)
