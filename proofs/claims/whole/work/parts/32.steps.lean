/-! each call on both sides -/
theorem updL0 {d : Nat → Int64} {v : Int64} : vp_updL d 0 v 0 = v := by simp [vp_updL]
theorem th_upd {th : Nat → Int32} (h : ∀ i : Nat, th i = 0 ∨ th i = 1) {b : Nat} {v : Int32} (hv : v = 0 ∨ v = 1) : ∀ i : Nat, upd th b v i = 0 ∨ upd th b v i = 1 := fun i => by
  by_cases q : i = b
  · rw [upd, if_pos q]; exact hv
  · rw [upd_ne q]; exact h i

set_option maxHeartbeats 1000000 in
theorem st_put (l : Launch) (hlt : l.stackTraces = false) (G : Gl) (w : World) {x y o : Nat} {tc : Int32} {d : Nat → Int64} (h : LI G w x y o tc d) (h0 : w (ge0 G) = none) (n lx ly hx1 hy1 : Int32) : ∃ (mc ms : Nat) (P : Int32 → World → Prop), mc ≤ 260 ∧ ms ≤ 12300 ∧ GnI l y_L_put ws_L_put 9 mc ms G w [.ref x, .int n, .int lx, .int ly, .int hx1, .int hy1, .ref o] P ∧ ∀ (r5 : Int32) (w1 : World), P r5 w1 → ∃ (vs : List Value) (P2 : Int32 → World → Prop), w1 y = some (.inr (3, vs)) ∧ GnI l y_M_put ws_M_put 4 0 0 G w1 [.ref y, .int n, .int lx, .int ly, .int hx1, .int hy1] P2 ∧ ∀ (r6 : Int32) (w2 : World), P2 r6 w2 → ∃ d2 : Nat → Int64, LI G w2 x y o r5 d2 ∧ (r5 = 0 → d2 0 = (if r6 = 0 then (0 : Int64) else 1)) := by
  obtain ⟨L, E, F, Gd, cF, aT, aX, aY, aU, aV, aR, th, lx0, ly0, ux0, uy0, rf, rs, hS, hrf, h01, hok⟩ := h
  obtain ⟨hD, hM, hO, -⟩ := id hS
  by_cases hn : okN n
  · obtain ⟨b, hb, rfl⟩ := okN_ex hn
    by_cases hB : okB lx ly hx1 hy1
    · have hI := k_B_put l G w hD (nI b) lx ly hx1 hy1 _ hn hB bl_srt (bl_Lb hb) (bl_len 0 4096)
      refine ⟨2, 6200, _, by decide, by decide, k_L_put l G w hD.1 (nI b) lx ly hx1 hy1 hO hI (fun r w1 hp => ?_), ?_⟩
      · rcases hp with ⟨-, -, hq⟩ | ⟨-, -, hq⟩
        · obtain ⟨_, _, _, _, hs⟩ := hS.dq h0 hq
          exact hs.2.2.1
        · obtain ⟨_, _, _, _, hs⟩ := hS.dq h0 hq
          exact hs.2.2.1
      · rintro r5 w1 ⟨rfl, r, w0, hp, hw⟩
        have key : r = th b ∧ DQ G w w0 x L E F Gd (bl (upd th b 1) (upd lx0 b lx) (upd ly0 b ly) (upd ux0 b hx1) (upd uy0 b hy1) 0 4096) rs (fun c => c = cF) := by
          by_cases ht : th b = 0
          · rcases hp with ⟨-, hth, -⟩ | ⟨hr, -, hq⟩
            · exact absurd hth (bl_not hb ht)
            · rw [put_ins hb ht] at hq
              exact ⟨hr.trans ht.symm, hq⟩
          · rcases hp with ⟨hr, -, hq⟩ | ⟨-, hth, -⟩
            · rw [put_set hb ht] at hq
              exact ⟨hr.trans ((h01 b).elim (fun q => absurd q ht) Eq.symm), hq⟩
            · exact absurd (bl_is hb ht) hth
        obtain ⟨hr, hq⟩ := key
        obtain ⟨E1, F1, G1, cF1, hs⟩ := hS.dq h0 hq
        have hs1 := hs.st hw
        refine ⟨_, _, hs1.2.1.1, k_M_put l G w1 hs1.2.1 h01 b lx ly hx1 hy1 hb hB, fun r6 w2 hp2 => ?_⟩
        refine ⟨_, ⟨L, E1, F1, G1, cF1, aT, aX, aY, aU, aV, aR, _, _, _, _, _, rf, rs, hs1.md hp2.2, hrf, th_upd h01 (Or.inr rfl), fun i hi => ?_⟩, fun _ => by rw [updL0, hr, hp2.1]⟩
        by_cases q : i = b
        · rw [upd, if_pos q, upd, if_pos q, upd, if_pos q, upd, if_pos q]; exact hB
        · rw [upd_ne q] at hi
          rw [upd_ne q, upd_ne q, upd_ne q, upd_ne q]; exact hok i hi
    · refine ⟨1, 6, _, by decide, by decide, x_L_put2 l G w hD.1 (nI b) lx ly hx1 hy1 (t_B_put1 l hlt G w (nI b) lx ly hx1 hy1 hn hB), ?_⟩
      rintro r5 w1 ⟨rfl, rfl⟩
      refine ⟨_, _, hM.1, k_M_put2 l G _ hM b lx ly hx1 hy1 hb hB, fun r6 w2 hp2 => ?_⟩
      exact ⟨d, ⟨L, E, F, Gd, cF, aT, aX, aY, aU, aV, aR, th, lx0, ly0, ux0, uy0, rf, rs, hS.md hp2.2, hrf, h01, hok⟩, fun q => absurd q (by decide)⟩
  · refine ⟨1, 6, _, by decide, by decide, x_L_put1 l G w hD.1 n lx ly hx1 hy1 (t_B_put0 l hlt G w n lx ly hx1 hy1 hn), ?_⟩
    rintro r5 w1 ⟨rfl, rfl⟩
    refine ⟨_, _, hM.1, k_M_put1 l G _ hM n lx ly hx1 hy1 hn, fun r6 w2 hp2 => ?_⟩
    exact ⟨d, ⟨L, E, F, Gd, cF, aT, aX, aY, aU, aV, aR, th, lx0, ly0, ux0, uy0, rf, rs, hS.md hp2.2, hrf, h01, hok⟩, fun q => absurd q (by decide)⟩


set_option maxHeartbeats 1000000 in
theorem st_take (l : Launch) (hlt : l.stackTraces = false) (G : Gl) (w : World) {x y o : Nat} {tc : Int32} {d : Nat → Int64} (h : LI G w x y o tc d) (h0 : w (ge0 G) = none) (n : Int32) : ∃ (mc ms : Nat) (P : Int32 → World → Prop), mc ≤ 260 ∧ ms ≤ 12300 ∧ GnI l y_L_take ws_L_take 9 mc ms G w [.ref x, .int n, .ref o] P ∧ ∀ (r5 : Int32) (w1 : World), P r5 w1 → ∃ (vs : List Value) (P2 : Int32 → World → Prop), w1 y = some (.inr (3, vs)) ∧ GnI l y_M_take ws_M_take 4 0 0 G w1 [.ref y, .int n] P2 ∧ ∀ (r6 : Int32) (w2 : World), P2 r6 w2 → ∃ d2 : Nat → Int64, LI G w2 x y o r5 d2 ∧ (r5 = 0 → d2 0 = (if r6 = 0 then (0 : Int64) else 1)) := by
  obtain ⟨L, E, F, Gd, cF, aT, aX, aY, aU, aV, aR, th, lx0, ly0, ux0, uy0, rf, rs, hS, hrf, h01, hok⟩ := h
  obtain ⟨hD, hM, hO, -⟩ := id hS
  by_cases hn : okN n
  · obtain ⟨b, hb, rfl⟩ := okN_ex hn
    have hI := k_B_take l G w hD (nI b) _ hn bl_srt (bl_Lb hb)
    refine ⟨0, 0, _, by decide, by decide, k_L_take l G w hD.1 (nI b) hO hI (fun r w1 hp => ?_), ?_⟩
    · rcases hp with ⟨-, -, hq⟩ | ⟨-, -, hq⟩
      · obtain ⟨_, _, _, _, hs⟩ := hS.dq h0 hq
        exact hs.2.2.1
      · obtain ⟨_, _, _, _, hs⟩ := hS.dq h0 hq
        exact hs.2.2.1
    · rintro r5 w1 ⟨rfl, r, w0, hp, hw⟩
      have key : r = th b ∧ DQ G w w0 x L E F Gd (bl (upd th b 0) lx0 ly0 ux0 uy0 0 4096) rs (fun c => c = cF) := by
        by_cases ht : th b = 0
        · rcases hp with ⟨-, hth, -⟩ | ⟨hr, -, hq⟩
          · exact absurd hth (bl_not hb ht)
          · rw [take_no hb ht] at hq
            exact ⟨hr.trans ht.symm, hq⟩
        · rcases hp with ⟨hr, -, hq⟩ | ⟨-, hth, -⟩
          · rw [take_era hb ht] at hq
            exact ⟨hr.trans ((h01 b).elim (fun q => absurd q ht) Eq.symm), hq⟩
          · exact absurd (bl_is hb ht) hth
      obtain ⟨hr, hq⟩ := key
      obtain ⟨E1, F1, G1, cF1, hs⟩ := hS.dq h0 hq
      have hs1 := hs.st hw
      refine ⟨_, _, hs1.2.1.1, k_M_take l G w1 hs1.2.1 h01 b hb, fun r6 w2 hp2 => ?_⟩
      refine ⟨_, ⟨L, E1, F1, G1, cF1, aT, aX, aY, aU, aV, aR, _, lx0, ly0, ux0, uy0, rf, rs, hs1.md hp2.2, hrf, th_upd h01 (Or.inl rfl), fun i hi => ?_⟩, fun _ => by rw [updL0, hr, hp2.1]⟩
      by_cases q : i = b
      · rw [upd, if_pos q] at hi; exact absurd rfl hi
      · rw [upd_ne q] at hi; exact hok i hi
  · refine ⟨1, 6, _, by decide, by decide, x_L_take1 l G w hD.1 n (t_B_take l hlt G w n hn), ?_⟩
    rintro r5 w1 ⟨rfl, rfl⟩
    refine ⟨_, _, hM.1, k_M_take1 l G _ hM n hn, fun r6 w2 hp2 => ?_⟩
    exact ⟨d, ⟨L, E, F, Gd, cF, aT, aX, aY, aU, aV, aR, th, lx0, ly0, ux0, uy0, rf, rs, hS.md hp2.2, hrf, h01, hok⟩, fun q => absurd q (by decide)⟩


set_option maxHeartbeats 1000000 in
theorem st_find (l : Launch) (hlt : l.stackTraces = false) (G : Gl) (w : World) {x y o : Nat} {tc : Int32} {d : Nat → Int64} (h : LI G w x y o tc d) (h0 : w (ge0 G) = none) (k lx ly hx1 hy1 : Int32) : ∃ (mc ms : Nat) (P : Int32 → World → Prop), mc ≤ 260 ∧ ms ≤ 12300 ∧ GnI l y_L_find ws_L_find 9 mc ms G w [.ref x, .int k, .int lx, .int ly, .int hx1, .int hy1, .ref o] P ∧ ∀ (r5 : Int32) (w1 : World), P r5 w1 → ∃ (vs : List Value) (P2 : Int32 → World → Prop), w1 y = some (.inr (3, vs)) ∧ GnI l y_M_find ws_M_find 4 0 0 G w1 [.ref y, .int k, .int lx, .int ly, .int hx1, .int hy1] P2 ∧ ∀ (r6 : Int32) (w2 : World), P2 r6 w2 → ∃ d2 : Nat → Int64, LI G w2 x y o r5 d2 ∧ (r5 = 0 → d2 0 = r6.toInt64) := by
  obtain ⟨L, E, F, Gd, cF, aT, aX, aY, aU, aV, aR, th, lx0, ly0, ux0, uy0, rf, rs, hS, hrf, h01, hok⟩ := h
  obtain ⟨hD, hM, hO, -⟩ := id hS
  by_cases hB : okB lx ly hx1 hy1
  · by_cases hk : okF k
    · have hI := k_B_find l G w hD k lx ly hx1 hy1 hk hB (bl_len 0 4096)
      refine ⟨260, 12300, _, by decide, by decide, k_L_find l G w hD.1 k lx ly hx1 hy1 hO hI (fun r w1 hp => ?_), ?_⟩
      · obtain ⟨_, _, _, _, hs⟩ := hS.dq h0 hp.2
        exact hs.2.2.1
      · rintro r5 w1 ⟨rfl, r, w0, ⟨hr, hq⟩, hw⟩
        obtain ⟨E1, F1, G1, cF1, hs⟩ := hS.dq h0 hq
        have hs1 := hs.st hw
        refine ⟨_, _, hs1.2.1.1, k_M_find l G w1 hs1.2.1 k ((-1 : Int32), lx, ly, hx1, hy1) hk hB, fun r6 w2 hp2 => ?_⟩
        obtain ⟨h6, rf1, hrf1, hmd⟩ := hp2
        exact ⟨_, ⟨L, E1, F1, G1, cF1, aT, aX, aY, aU, aV, aR, th, lx0, ly0, ux0, uy0, rf1, _, hs1.md hmd, hrf1, h01, hok⟩, fun _ => by rw [updL0, hr, h6]⟩
    · refine ⟨1, 6, _, by decide, by decide, x_L_find1 l G w hD.1 k lx ly hx1 hy1 (t_B_find1 l hlt G w k lx ly hx1 hy1 hB hk), ?_⟩
      rintro r5 w1 ⟨rfl, rfl⟩
      refine ⟨_, _, hM.1, k_M_find1 l G _ hM k ((-1 : Int32), lx, ly, hx1, hy1) (fun q => hk q.1), fun r6 w2 hp2 => ?_⟩
      exact ⟨d, ⟨L, E, F, Gd, cF, aT, aX, aY, aU, aV, aR, th, lx0, ly0, ux0, uy0, rf, rs, hS.md hp2.2, hrf, h01, hok⟩, fun q => absurd q (by decide)⟩
  · refine ⟨1, 6, _, by decide, by decide, x_L_find1 l G w hD.1 k lx ly hx1 hy1 (t_B_find0 l hlt G w k lx ly hx1 hy1 hB), ?_⟩
    rintro r5 w1 ⟨rfl, rfl⟩
    refine ⟨_, _, hM.1, k_M_find1 l G _ hM k ((-1 : Int32), lx, ly, hx1, hy1) (fun q => hB q.2), fun r6 w2 hp2 => ?_⟩
    exact ⟨d, ⟨L, E, F, Gd, cF, aT, aX, aY, aU, aV, aR, th, lx0, ly0, ux0, uy0, rf, rs, hS.md hp2.2, hrf, h01, hok⟩, fun q => absurd q (by decide)⟩


theorem okM_ex {n : Int32} (h : okM n) : ∃ b : Nat, 1 ≤ b ∧ b ≤ 4096 ∧ n = nI b := by
  unfold okM at h
  simp only [Int32.le_iff_toInt_le, tI4096, tI1] at h
  refine ⟨n.toInt.toNat, by omega, by omega, ?_⟩
  refine Int32.toInt_inj.mp ?_
  rw [nI_toInt (by omega)]
  omega

set_option maxHeartbeats 1000000 in
theorem st_nearest (l : Launch) (hlt : l.stackTraces = false) (G : Gl) (w : World) {x y o : Nat} {tc : Int32} {d : Nat → Int64} (h : LI G w x y o tc d) (h0 : w (ge0 G) = none) (px py n : Int32) : ∃ (mc ms : Nat) (P : Int32 → World → Prop), mc ≤ 260 ∧ ms ≤ 12300 ∧ GnI l y_L_nearest ws_L_nearest 9 mc ms G w [.ref x, .int px, .int py, .int n, .ref o] P ∧ ∀ (r5 : Int32) (w1 : World), P r5 w1 → ∃ (vs : List Value) (P2 : Int32 → World → Prop), w1 y = some (.inr (3, vs)) ∧ GnI l y_M_nearest ws_M_nearest 4 0 0 G w1 [.ref y, .int px, .int py, .int n] P2 ∧ ∀ (r6 : Int32) (w2 : World), P2 r6 w2 → ∃ d2 : Nat → Int64, LI G w2 x y o r5 d2 ∧ (r5 = 0 → d2 0 = r6.toInt64) := by
  obtain ⟨L, E, F, Gd, cF, aT, aX, aY, aU, aV, aR, th, lx0, ly0, ux0, uy0, rf, rs, hS, hrf, h01, hok⟩ := h
  obtain ⟨hD, hM, hO, -⟩ := id hS
  by_cases hm : okM n
  · by_cases hp : okP px py
    · obtain ⟨nn, hn1, hn2, rfl⟩ := okM_ex hm
      have hI := k_B_nearest l G w hD px py nn hn1 hn2 hp (bl_len 0 4096)
      refine ⟨260, 12300, _, by decide, by decide, k_L_nearest l G w hD.1 px py (nI nn) hO hI (fun r w1 hp => ?_), ?_⟩
      · obtain ⟨_, _, _, _, hs⟩ := hS.dq h0 hp.2
        exact hs.2.2.1
      · rintro r5 w1 ⟨rfl, r, w0, ⟨hr, hq⟩, hw⟩
        obtain ⟨E1, F1, G1, cF1, hs⟩ := hS.dq h0 hq
        have hs1 := hs.st hw
        have hne := near_eq (px := px) (py := py) (B := bl th lx0 ly0 ux0 uy0 0 4096) nn (bl_pw 0 4096 (by omega)) (fun b hb => by
          obtain ⟨i, -, -, e, hi⟩ := bl_mem 0 4096 hb
          rw [e]
          exact bDst_pos (hok i hi) hp)
        refine ⟨_, _, hs1.2.1.1, k_M_nearest l G w1 hs1.2.1 px py nn hn1 hn2 hp, fun r6 w2 hp2 => ?_⟩
        obtain ⟨h6, rf1, hrf1, hmd⟩ := hp2
        rw [hne] at h6 hmd
        refine ⟨_, ⟨L, E1, F1, G1, cF1, aT, aX, aY, aU, aV, aR, th, lx0, ly0, ux0, uy0, rf1, _, by rw [List.length_map]; exact hs1.md hmd, fun i hi => ?_, h01, hok⟩, fun _ => by rw [updL0, hr, h6]⟩
        rw [List.length_map] at hi
        rw [List.getElem_map, hrf1 i (by rw [hne]; exact hi)]
        congr 1
        simp only [hne]
    · refine ⟨1, 6, _, by decide, by decide, x_L_nearest1 l G w hD.1 px py n (t_B_nearest1 l hlt G w px py n hm hp), ?_⟩
      rintro r5 w1 ⟨rfl, rfl⟩
      refine ⟨_, _, hM.1, k_M_nearest1 l G _ hM px py n (fun q => hp q.2), fun r6 w2 hp2 => ?_⟩
      exact ⟨d, ⟨L, E, F, Gd, cF, aT, aX, aY, aU, aV, aR, th, lx0, ly0, ux0, uy0, rf, rs, hS.md hp2.2, hrf, h01, hok⟩, fun q => absurd q (by decide)⟩
  · refine ⟨1, 6, _, by decide, by decide, x_L_nearest1 l G w hD.1 px py n (t_B_nearest0 l hlt G w px py n hm), ?_⟩
    rintro r5 w1 ⟨rfl, rfl⟩
    refine ⟨_, _, hM.1, k_M_nearest1 l G _ hM px py n (fun q => hm q.1), fun r6 w2 hp2 => ?_⟩
    exact ⟨d, ⟨L, E, F, Gd, cF, aT, aX, aY, aU, aV, aR, th, lx0, ly0, ux0, uy0, rf, rs, hS.md hp2.2, hrf, h01, hok⟩, fun q => absurd q (by decide)⟩


theorem bl_out {th lx ly ux uy : Nat → Int32} {n : Int32} (hn : ¬ okN n) : ∃ k : Nat, Lb (bl th lx ly ux uy 0 4096) n k ∧ ¬ ∃ h : k < (bl th lx ly ux uy 0 4096).length, (bl th lx ly ux uy 0 4096)[k].1 = n := by
  have hb : ∀ a ∈ bl th lx ly ux uy 0 4096, okN a.1 := fun a ha => by
    obtain ⟨i, -, h2, h3, -⟩ := bl_mem 0 4096 ha
    rw [h3]
    exact okN_nI (by omega)
  have hne : ∀ (k : Nat) (h : k < (bl th lx ly ux uy 0 4096).length), ¬ (bl th lx ly ux uy 0 4096)[k].1 = n := fun k h q => hn (by rw [← q]; exact hb _ (List.getElem_mem _))
  by_cases h0 : n < 0
  · refine ⟨0, ⟨Nat.zero_le _, fun i h hi => absurd hi (Nat.not_lt_zero _), fun i h _ q => ?_⟩, fun ⟨h, q⟩ => hne _ h q⟩
    have a := Int32.lt_iff_toInt_lt.mp (i32_lt_trans q h0)
    have b := Int32.le_iff_toInt_le.mp (hb _ (List.getElem_mem h)).1
    omega
  · refine ⟨(bl th lx ly ux uy 0 4096).length, ⟨Nat.le_refl _, fun i h hi => ?_, fun i h hi => absurd h (by omega)⟩, fun ⟨h, q⟩ => hne _ h q⟩
    have a := Int32.lt_iff_toInt_lt.mp (hb _ (List.getElem_mem h)).2
    refine Int32.lt_iff_toInt_lt.mpr ?_
    have c : ¬ n < 4096 := fun q => hn ⟨Int32.not_lt.mp h0, q⟩
    have d := Int32.le_iff_toInt_le.mp (Int32.not_lt.mp c)
    omega

set_option maxHeartbeats 1000000 in
theorem st_distance (l : Launch) (hlt : l.stackTraces = false) (G : Gl) (w : World) {x y o : Nat} {tc : Int32} {d : Nat → Int64} (h : LI G w x y o tc d) (h0 : w (ge0 G) = none) (n px py : Int32) : ∃ (mc ms : Nat) (P : Int32 → World → Prop), mc ≤ 260 ∧ ms ≤ 12300 ∧ GnI l y_L_distance ws_L_distance 9 mc ms G w [.ref x, .int n, .int px, .int py, .ref o] P ∧ ∀ (r5 : Int32) (w1 : World), P r5 w1 → ∃ (vs : List Value) (P2 : Int64 → World → Prop), w1 y = some (.inr (3, vs)) ∧ GnL l y_M_distance ws_M_distance 4 0 0 G w1 [.ref y, .int n, .int px, .int py] P2 ∧ ∀ (r6 : Int64) (w2 : World), P2 r6 w2 → ∃ d2 : Nat → Int64, LI G w2 x y o r5 d2 ∧ (r5 = 0 → d2 0 = r6) := by
  obtain ⟨L, E, F, Gd, cF, aT, aX, aY, aU, aV, aR, th, lx0, ly0, ux0, uy0, rf, rs, hS, hrf, h01, hok⟩ := h
  obtain ⟨hD, hM, hO, -⟩ := id hS
  by_cases hn : okN n
  · obtain ⟨b, hb, rfl⟩ := okN_ex hn
    by_cases ht : th b = 0
    · refine ⟨1, 6, _, by decide, by decide, x_L_distance1 l G w hD.1 (nI b) px py (t_B_distance0 l hlt G w hD (nI b) _ px py bl_srt (bl_Lb hb) (bl_not hb ht)), ?_⟩
      rintro r5 w1 ⟨rfl, rfl⟩
      refine ⟨_, _, hM.1, k_M_distance1 l G _ hM b px py hb ht, fun r6 w2 hp2 => ?_⟩
      exact ⟨d, ⟨L, E, F, Gd, cF, aT, aX, aY, aU, aV, aR, th, lx0, ly0, ux0, uy0, rf, rs, hS.md hp2.2, hrf, h01, hok⟩, fun q => absurd q (by decide)⟩
    · by_cases hp : okP px py
      · refine ⟨0, 0, _, by decide, by decide, k_L_distance l G w hD.1 (nI b) px py _ hO (k_B_distance l G w hD (nI b) _ px py bl_srt (bl_Lb hb) (bl_there hb ht) rfl hp), ?_⟩
        rintro r5 w1 ⟨rfl, hw⟩
        have hs1 := hS.st hw
        refine ⟨_, _, hs1.2.1.1, k_M_distance l G w1 hs1.2.1 b px py hb ht hp, fun r6 w2 hp2 => ?_⟩
        exact ⟨_, ⟨L, E, F, Gd, cF, aT, aX, aY, aU, aV, aR, th, lx0, ly0, ux0, uy0, rf, rs, hs1.md hp2.2, hrf, h01, hok⟩, fun _ => by rw [updL0, hp2.1]⟩
      · refine ⟨1, 6, _, by decide, by decide, x_L_distance2 l G w hD.1 (nI b) px py (t_B_distance1 l hlt G w hD (nI b) _ px py bl_srt (bl_Lb hb) (bl_there hb ht) rfl hp), ?_⟩
        rintro r5 w1 ⟨rfl, rfl⟩
        refine ⟨_, _, hM.1, k_M_distance3 l G _ hM b px py hb ht hp, fun r6 w2 hp2 => ?_⟩
        exact ⟨d, ⟨L, E, F, Gd, cF, aT, aX, aY, aU, aV, aR, th, lx0, ly0, ux0, uy0, rf, rs, hS.md hp2.2, hrf, h01, hok⟩, fun q => absurd q (by decide)⟩
  · obtain ⟨k, hk1, hk2⟩ := bl_out (th := th) (lx := lx0) (ly := ly0) (ux := ux0) (uy := uy0) hn
    refine ⟨1, 6, _, by decide, by decide, x_L_distance1 l G w hD.1 n px py (t_B_distance0 l hlt G w hD n k px py bl_srt hk1 hk2), ?_⟩
    rintro r5 w1 ⟨rfl, rfl⟩
    refine ⟨_, _, hM.1, k_M_distance2 l G _ hM n px py hn, fun r6 w2 hp2 => ?_⟩
    exact ⟨d, ⟨L, E, F, Gd, cF, aT, aX, aY, aU, aV, aR, th, lx0, ly0, ux0, uy0, rf, rs, hS.md hp2.2, hrf, h01, hok⟩, fun q => absurd q (by decide)⟩


set_option maxHeartbeats 1000000 in
theorem st_box (l : Launch) (hlt : l.stackTraces = false) (G : Gl) (w : World) {x y o : Nat} {tc : Int32} {d : Nat → Int64} (h : LI G w x y o tc d) (h0 : w (ge0 G) = none) (n z : Int32) : ∃ (mc ms : Nat) (P : Int32 → World → Prop), mc ≤ 260 ∧ ms ≤ 12300 ∧ GnI l y_L_box ws_L_box 9 mc ms G w [.ref x, .int n, .int z, .ref o] P ∧ ∀ (r5 : Int32) (w1 : World), P r5 w1 → ∃ (vs : List Value) (P2 : Int32 → World → Prop), w1 y = some (.inr (3, vs)) ∧ GnI l y_M_box ws_M_box 4 0 0 G w1 [.ref y, .int n, .int z] P2 ∧ ∀ (r6 : Int32) (w2 : World), P2 r6 w2 → ∃ d2 : Nat → Int64, LI G w2 x y o r5 d2 ∧ (r5 = 0 → d2 0 = r6.toInt64) := by
  obtain ⟨L, E, F, Gd, cF, aT, aX, aY, aU, aV, aR, th, lx0, ly0, ux0, uy0, rf, rs, hS, hrf, h01, hok⟩ := h
  obtain ⟨hD, hM, hO, -⟩ := id hS
  by_cases hn : okN n
  · obtain ⟨b, hb, rfl⟩ := okN_ex hn
    by_cases ht : th b = 0
    · refine ⟨1, 6, _, by decide, by decide, x_L_box1 l G w hD.1 (nI b) z (t_B_box0 l hlt G w hD (nI b) _ z bl_srt (bl_Lb hb) (bl_not hb ht)), ?_⟩
      rintro r5 w1 ⟨rfl, rfl⟩
      refine ⟨_, _, hM.1, k_M_box1 l G _ hM b z hb (fun q => q.1 ht), fun r6 w2 hp2 => ?_⟩
      exact ⟨d, ⟨L, E, F, Gd, cF, aT, aX, aY, aU, aV, aR, th, lx0, ly0, ux0, uy0, rf, rs, hS.md hp2.2, hrf, h01, hok⟩, fun q => absurd q (by decide)⟩
    · by_cases hp : okW z
      · refine ⟨0, 0, _, by decide, by decide, k_L_box l G w hD.1 (nI b) z _ hO (k_B_box l G w hD (nI b) _ z bl_srt (bl_Lb hb) (bl_there hb ht) rfl hp), ?_⟩
        rintro r5 w1 ⟨rfl, hw⟩
        have hs1 := hS.st hw
        refine ⟨_, _, hs1.2.1.1, k_M_box l G w1 hs1.2.1 b z hb ht hp, fun r6 w2 hp2 => ?_⟩
        exact ⟨_, ⟨L, E, F, Gd, cF, aT, aX, aY, aU, aV, aR, th, lx0, ly0, ux0, uy0, rf, rs, hs1.md hp2.2, hrf, h01, hok⟩, fun _ => by rw [updL0, hp2.1]⟩
      · refine ⟨1, 6, _, by decide, by decide, x_L_box1 l G w hD.1 (nI b) z (t_B_box1 l hlt G w hD (nI b) _ z bl_srt (bl_Lb hb) (bl_there hb ht) rfl hp), ?_⟩
        rintro r5 w1 ⟨rfl, rfl⟩
        refine ⟨_, _, hM.1, k_M_box1 l G _ hM b z hb (fun q => hp q.2), fun r6 w2 hp2 => ?_⟩
        exact ⟨d, ⟨L, E, F, Gd, cF, aT, aX, aY, aU, aV, aR, th, lx0, ly0, ux0, uy0, rf, rs, hS.md hp2.2, hrf, h01, hok⟩, fun q => absurd q (by decide)⟩
  · obtain ⟨k, hk1, hk2⟩ := bl_out (th := th) (lx := lx0) (ly := ly0) (ux := ux0) (uy := uy0) hn
    refine ⟨1, 6, _, by decide, by decide, x_L_box1 l G w hD.1 n z (t_B_box0 l hlt G w hD n k z bl_srt hk1 hk2), ?_⟩
    rintro r5 w1 ⟨rfl, rfl⟩
    refine ⟨_, _, hM.1, k_M_box2 l G _ hM n z hn, fun r6 w2 hp2 => ?_⟩
    exact ⟨d, ⟨L, E, F, Gd, cF, aT, aX, aY, aU, aV, aR, th, lx0, ly0, ux0, uy0, rf, rs, hS.md hp2.2, hrf, h01, hok⟩, fun q => absurd q (by decide)⟩


set_option maxHeartbeats 1000000 in
theorem st_result (l : Launch) (hlt : l.stackTraces = false) (G : Gl) (w : World) {x y o : Nat} {tc : Int32} {d : Nat → Int64} (h : LI G w x y o tc d) (h0 : w (ge0 G) = none) (i : Int32) : ∃ (mc ms : Nat) (P : Int32 → World → Prop), mc ≤ 260 ∧ ms ≤ 12300 ∧ GnI l y_L_result ws_L_result 9 mc ms G w [.ref x, .int i, .ref o] P ∧ ∀ (r5 : Int32) (w1 : World), P r5 w1 → ∃ (vs : List Value) (P2 : Int32 → World → Prop), w1 y = some (.inr (3, vs)) ∧ GnI l y_M_result ws_M_result 4 0 0 G w1 [.ref y, .int i] P2 ∧ ∀ (r6 : Int32) (w2 : World), P2 r6 w2 → ∃ d2 : Nat → Int64, LI G w2 x y o r5 d2 ∧ (r5 = 0 → d2 0 = r6.toInt64) := by
  obtain ⟨L, E, F, Gd, cF, aT, aX, aY, aU, aV, aR, th, lx0, ly0, ux0, uy0, rf, rs, hS, hrf, h01, hok⟩ := h
  obtain ⟨hD, hM, hO, -⟩ := id hS
  have hsz : rs.length ≤ 4096 := Nat.le_trans hD.2.2.2.2.1 hD.2.2.2.2.2.2
  by_cases hi : 0 ≤ i ∧ i < nI rs.length
  · obtain ⟨j, hj, rfl⟩ := nI_of (Int32.not_lt.mpr hi.1)
    have hjl : j < rs.length := (nI_ltI hj (by omega)).mp hi.2
    refine ⟨0, 0, _, by decide, by decide, k_L_result l G w hD.1 (nI j) _ hO (k_B_result l G w hD hjl), ?_⟩
    rintro r5 w1 ⟨rfl, hw⟩
    have hs1 := hS.st hw
    refine ⟨_, _, hs1.2.1.1, k_M_result l G w1 hs1.2.1 j hjl hsz, fun r6 w2 hp2 => ?_⟩
    exact ⟨_, ⟨L, E, F, Gd, cF, aT, aX, aY, aU, aV, aR, th, lx0, ly0, ux0, uy0, rf, rs, hs1.md hp2.2, hrf, h01, hok⟩, fun _ => by rw [updL0, hp2.1, hrf j hjl]⟩
  · refine ⟨1, 6, _, by decide, by decide, x_L_result1 l G w hD.1 i (t_B_result l hlt G w hD i hi), ?_⟩
    rintro r5 w1 ⟨rfl, rfl⟩
    refine ⟨_, _, hM.1, k_M_result1 l G _ hM i hi hsz, fun r6 w2 hp2 => ?_⟩
    exact ⟨d, ⟨L, E, F, Gd, cF, aT, aX, aY, aU, aV, aR, th, lx0, ly0, ux0, uy0, rf, rs, hS.md hp2.2, hrf, h01, hok⟩, fun q => absurd q (by decide)⟩


set_option maxHeartbeats 1000000 in
theorem st_bounds (l : Launch) (hlt : l.stackTraces = false) (G : Gl) (w : World) {x y o : Nat} {tc : Int32} {d : Nat → Int64} (h : LI G w x y o tc d) (h0 : w (ge0 G) = none) (z : Int32) : ∃ (mc ms : Nat) (P : Int32 → World → Prop), mc ≤ 260 ∧ ms ≤ 12300 ∧ GnI l y_L_bounds ws_L_bounds 9 mc ms G w [.ref x, .int z, .ref o] P ∧ ∀ (r5 : Int32) (w1 : World), P r5 w1 → ∃ (vs : List Value) (P2 : Int32 → World → Prop), w1 y = some (.inr (3, vs)) ∧ GnI l y_M_bounds ws_M_bounds 4 0 0 G w1 [.ref y, .int z] P2 ∧ ∀ (r6 : Int32) (w2 : World), P2 r6 w2 → ∃ d2 : Nat → Int64, LI G w2 x y o r5 d2 ∧ (r5 = 0 → d2 0 = r6.toInt64) := by
  obtain ⟨L, E, F, Gd, cF, aT, aX, aY, aU, aV, aR, th, lx0, ly0, ux0, uy0, rf, rs, hS, hrf, h01, hok⟩ := h
  obtain ⟨hD, hM, hO, -⟩ := id hS
  by_cases hz : okW z
  · cases hB : bl th lx0 ly0 ux0 uy0 0 4096 with
    | nil =>
      have hD0 : DAt G w x L E F Gd [] rs cF := by rw [← hB]; exact hD
      refine ⟨1, 6, _, by decide, by decide, x_L_bounds2 l G w hD.1 z (t_B_bounds1 l hlt G w hD0 z hz), ?_⟩
      rintro r5 w1 ⟨rfl, rfl⟩
      refine ⟨_, _, hM.1, k_M_bounds2 l G _ hM z hz (by rw [hB]; exact boF_nil z), fun r6 w2 hp2 => ?_⟩
      exact ⟨d, ⟨L, E, F, Gd, cF, aT, aX, aY, aU, aV, aR, th, lx0, ly0, ux0, uy0, rf, rs, hS.md hp2.2, hrf, h01, hok⟩, fun q => absurd q (by decide)⟩
    | cons b bt =>
      have hD0 : DAt G w x L E F Gd (b :: bt) rs cF := by rw [← hB]; exact hD
      have hl0 : (b :: bt).length ≤ 4096 := by rw [← hB]; exact bl_len 0 4096
      refine ⟨0, 0, _, by decide, by decide, k_L_bounds l G w hD.1 z _ hO (k_B_bounds l G w hD0 hl0 z hz), ?_⟩
      rintro r5 w1 ⟨rfl, hw⟩
      have hs1 := hS.st hw
      refine ⟨_, _, hs1.2.1.1, k_M_bounds l G w1 hs1.2.1 z hz (by rw [hB, boF_cons]; exact fun q => by cases q), fun r6 w2 hp2 => ?_⟩
      exact ⟨_, ⟨L, E, F, Gd, cF, aT, aX, aY, aU, aV, aR, th, lx0, ly0, ux0, uy0, rf, rs, hs1.md hp2.2, hrf, h01, hok⟩, fun _ => by rw [updL0, ← Option.some.inj ((boF_cons z b bt).symm.trans ((congrArg (boF z none) hB).symm.trans hp2.1))]⟩
  · refine ⟨1, 6, _, by decide, by decide, x_L_bounds1 l G w hD.1 z (t_B_bounds0 l hlt G w hD z hz), ?_⟩
    rintro r5 w1 ⟨rfl, rfl⟩
    refine ⟨_, _, hM.1, k_M_bounds1 l G _ hM z hz, fun r6 w2 hp2 => ?_⟩
    exact ⟨d, ⟨L, E, F, Gd, cF, aT, aX, aY, aU, aV, aR, th, lx0, ly0, ux0, uy0, rf, rs, hS.md hp2.2, hrf, h01, hok⟩, fun q => absurd q (by decide)⟩


set_option maxHeartbeats 1000000 in
theorem st_clear (l : Launch) (G : Gl) (w : World) {x y o : Nat} {tc : Int32} {d : Nat → Int64} (h : LI G w x y o tc d) (h0 : w (ge0 G) = none) : ∃ P : Int32 → World → Prop, GnI l y_B_clear ws_B_clear 2 0 0 G w [.ref x] P ∧ ∀ (r5 : Int32) (w1 : World), P r5 w1 → ∃ (vs : List Value) (P2 : Int32 → World → Prop), w1 y = some (.inr (3, vs)) ∧ GnI l y_M_clear ws_M_clear 4 0 0 G w1 [.ref y] P2 ∧ ∀ (r6 : Int32) (w2 : World), P2 r6 w2 → r5 = r6 ∧ LI G w2 x y o 0 d := by
  obtain ⟨L, E, F, Gd, cF, aT, aX, aY, aU, aV, aR, th, lx0, ly0, ux0, uy0, rf, rs, hS, hrf, h01, hok⟩ := h
  obtain ⟨hD, hM, hO, -⟩ := id hS
  refine ⟨_, k_B_clear l G w hD, fun r5 w1 hp => ?_⟩
  obtain ⟨hr, hq⟩ := hp
  obtain ⟨E1, F1, G1, cF1, hs⟩ := hS.dq h0 hq
  refine ⟨_, _, hs.2.1.1, k_M_clear l G w1 hs.2.1, fun r6 w2 hp2 => ?_⟩
  obtain ⟨h6, th1, ht1, ht2, hmd⟩ := hp2
  have hz : bl th1 lx0 ly0 ux0 uy0 0 4096 = [] := bl_zero 0 4096 (fun i _ hi => ht1 i (by omega))
  refine ⟨by rw [hr, h6, bl_cnt], ⟨L, E1, F1, G1, cF1, aT, aX, aY, aU, aV, aR, th1, lx0, ly0, ux0, uy0, rf, rs, by rw [hz]; exact hs.md hmd, hrf, fun i => ?_, fun i hi => ?_⟩⟩
  · by_cases q : i < 4096
    · exact Or.inl (ht1 i q)
    · rw [ht2 i (by omega)]; exact h01 i
  · by_cases q : i < 4096
    · exact absurd (ht1 i q) hi
    · rw [ht2 i (by omega)] at hi; exact hok i hi

set_option maxHeartbeats 1000000 in
theorem st_pairs (l : Launch) (G : Gl) (w : World) {x y o : Nat} {tc : Int32} {d : Nat → Int64} (h : LI G w x y o tc d) (h0 : w (ge0 G) = none) : ∃ P : Int32 → World → Prop, GnI l y_B_pairs ws_B_pairs 6 260 12300 G w [.ref x] P ∧ ∀ (r5 : Int32) (w1 : World), P r5 w1 → ∃ (vs : List Value) (P2 : Int32 → World → Prop), w1 y = some (.inr (3, vs)) ∧ GnI l y_M_pairs ws_M_pairs 4 0 0 G w1 [.ref y] P2 ∧ ∀ (r6 : Int32) (w2 : World), P2 r6 w2 → r5 = r6 ∧ LI G w2 x y o 0 d := by
  obtain ⟨L, E, F, Gd, cF, aT, aX, aY, aU, aV, aR, th, lx0, ly0, ux0, uy0, rf, rs, hS, hrf, h01, hok⟩ := h
  obtain ⟨hD, hM, hO, -⟩ := id hS
  refine ⟨_, k_B_pairs l G w hD (bl_len 0 4096), fun r5 w1 hp => ?_⟩
  obtain ⟨hr, hq⟩ := hp
  obtain ⟨E1, F1, G1, cF1, hs⟩ := hS.dq h0 hq
  refine ⟨_, _, hs.2.1.1, k_M_pairs l G w1 hs.2.1, fun r6 w2 hp2 => ?_⟩
  obtain ⟨h6, rf1, hrf1, hmd⟩ := hp2
  exact ⟨by rw [hr, h6], ⟨L, E1, F1, G1, cF1, aT, aX, aY, aU, aV, aR, th, lx0, ly0, ux0, uy0, rf1, _, hs.md hmd, hrf1, h01, hok⟩⟩

set_option maxHeartbeats 1000000 in
theorem st_count (l : Launch) (G : Gl) (w : World) {x y o : Nat} {tc : Int32} {d : Nat → Int64} (h : LI G w x y o tc d) (k : Int32) : ∃ (v : Int32) (vs : List Value) (P2 : Int32 → World → Prop), PuM l y_B_count ws_B_count 1 G w [.ref x, .int k] (some (.int v)) ∧ w y = some (.inr (3, vs)) ∧ GnI l y_M_count ws_M_count 4 0 0 G w [.ref y, .int k] P2 ∧ ∀ (r6 : Int32) (w2 : World), P2 r6 w2 → v = r6 ∧ LI G w2 x y o 0 d := by
  obtain ⟨L, E, F, Gd, cF, aT, aX, aY, aU, aV, aR, th, lx0, ly0, ux0, uy0, rf, rs, hS, hrf, h01, hok⟩ := h
  obtain ⟨hD, hM, hO, -⟩ := id hS
  refine ⟨_, _, _, k_B_count l G w hD k, hM.1, k_M_count l G w hM k, fun r6 w2 hp2 => ?_⟩
  exact ⟨by rw [hp2.1, bl_cnt], ⟨L, E, F, Gd, cF, aT, aX, aY, aU, aV, aR, th, lx0, ly0, ux0, uy0, rf, rs, hS.md hp2.2, hrf, h01, hok⟩⟩
