/-! one call on both sides -/
def SJ (G : Gl) (w : World) (x L E F Gd : Nat) (bs : List Bx) (rs : List Int32) (cF y aT aX aY aU aV aR : Nat) (tc : Int32) (th lx ly ux uy : Nat → Int32) (sz : Nat) (rf : Nat → Int32) (o : Nat) (d : Nat → Int64) : Prop :=
  DAt G w x L E F Gd bs rs cF ∧ MAt G w y aT aX aY aU aV aR tc th lx ly ux uy sz rf ∧ w o = some (.inl (G.2.1.2.1, 1, .inr (.inl d))) ∧ (F ≠ aT ∧ F ≠ aX ∧ F ≠ aY ∧ F ≠ aU ∧ F ≠ aV ∧ F ≠ aR) ∧ o ≠ Gd
theorem m5 {a b1 b2 b3 b4 b5 : Nat} (h1 : a ≠ b1) (h2 : a ≠ b2) (h3 : a ≠ b3) (h4 : a ≠ b4) (h5 : a ≠ b5) : a ∉ [b1, b2, b3, b4, b5] := fun h => by
  rcases List.mem_cons.mp h with h | h
  · exact h1 h
  · rcases List.mem_cons.mp h with h | h
    · exact h2 h
    · exact m3 h3 h4 h5 h
theorem m7 {a b1 b2 b3 b4 b5 b6 b7 : Nat} (h1 : a ≠ b1) (h2 : a ≠ b2) (h3 : a ≠ b3) (h4 : a ≠ b4) (h5 : a ≠ b5) (h6 : a ≠ b6) (h7 : a ≠ b7) : a ∉ [b1, b2, b3, b4, b5, b6, b7] := fun h => by
  rcases List.mem_cons.mp h with h | h
  · exact h1 h
  · rcases List.mem_cons.mp h with h | h
    · exact h2 h
    · exact m5 h3 h4 h5 h6 h7 h
theorem LsAt.nI2 {G : Gl} {w : World} {L E N : Nat} {f : Nat → Option Nat} {md : Int32} {bs : List Bx} (h : LsAt G w L E N f md bs) (h0 : w (ge0 G) = none) {a n : Nat} {c : ClassId} {g : Nat → Int32} (ha : w a = some (.inl (c, n, .inl g))) : a ≠ E := h.nA (n := 0) h0 ha (fun _ _ => by simp)
theorem LsAt.nL2 {G : Gl} {w : World} {L E N : Nat} {f : Nat → Option Nat} {md : Int32} {bs : List Bx} (h : LsAt G w L E N f md bs) (h0 : w (ge0 G) = none) {a n : Nat} {c : ClassId} {g : Nat → Int64} (ha : w a = some (.inl (c, n, .inr (.inl g)))) : a ≠ E := h.nA (n := 0) h0 ha (fun _ _ => by simp)
theorem SJ.dq {G : Gl} {w w1 : World} {x L E F Gd cF y aT aX aY aU aV aR sz o : Nat} {bs : List Bx} {rs : List Int32} {tc : Int32} {th lx ly ux uy rf : Nat → Int32} {d : Nat → Int64} {bs1 : List Bx} {rs1 : List Int32} {P : Nat → Prop} (h : SJ G w x L E F Gd bs rs cF y aT aX aY aU aV aR tc th lx ly ux uy sz rf o d) (h0 : w (ge0 G) = none) (hq : DQ G w w1 x L E F Gd bs1 rs1 P) : ∃ E1 F1 G1 cF1 : Nat, SJ G w1 x L E1 F1 G1 bs1 rs1 cF1 y aT aX aY aU aV aR tc th lx ly ux uy sz rf o d := by
  obtain ⟨hD, hM, hO, ⟨f1, f2, f3, f4, f5, f6⟩, hoG⟩ := h
  obtain ⟨hB, ⟨N, f, md, hLs, hN0⟩, ⟨g, hF, hg⟩, ⟨cG, dd, hGd, hcG⟩, hc⟩ := hD
  obtain ⟨hY, hT, hX, hYy, hU9, hV, hR, hDi⟩ := hM
  obtain ⟨E1, F1, G1, cF1, a1, a2, a3, a4, a5, -⟩ := hq
  have ka : ∀ {a : Nat} {c : ClassId} {gg : Nat → Int32}, w a = some (.inl (c, 4096, .inl gg)) → F ≠ a → w1 a = some (.inl (c, 4096, .inl gg)) := fun {a c gg} ha hne => a5 _ _ ha (m5 (wne ha hB (by simp)) (wne ha hLs.1 (by simp)) (hLs.nI2 h0 ha) hne.symm (wne ha hGd (by simp)))
  have kf : ∀ {a : Nat} {e : va_E}, w a = some e → F ≠ a → F1 ≠ a := fun {a e} ha hne => a2.elim (fun q => by rw [q]; exact hne) (fun q => (wnf ha q).symm)
  refine ⟨E1, F1, G1, cF1, a4, ⟨a5 _ _ hY (m5 (wne hY hB (by simp)) (wne hY hLs.1 (by simp)) (hLs.nE h0 hY) (wne hY hF (by simp)) (wne hY hGd (by simp))), ka hT f1, ka hX f2, ka hYy f3, ka hU9 f4, ka hV f5, ka hR f6, hDi⟩, a5 _ _ hO (m5 (wne hO hB (by simp)) (wne hO hLs.1 (by simp)) (hLs.nL2 h0 hO) (wne hO hF (by simp)) hoG), ⟨kf hT f1, kf hX f2, kf hYy f3, kf hU9 f4, kf hV f5, kf hR f6⟩, ?_⟩
  exact a3.elim (fun q => by rw [q]; exact hoG) (fun q => wnf hO q)
theorem LsAt.kS {G : Gl} {w w1 : World} {L E N : Nat} {f : Nat → Option Nat} {md : Int32} {bs : List Bx} {S : List Nat} (h : LsAt G w L E N f md bs) (hK : Kp w w1 S) (hL : L ∉ S) (hE : ∀ (n : Nat) (c : ClassId) (f : Nat → Option Nat), w E = some (.inl (c, n, .inr (.inr (.inr (.inr f))))) → E ∉ S) (hX : ∀ (a : Nat) (vs : List Value), w a = some (.inr (1, vs)) → a ∉ S) : LsAt G w1 L E N f md bs := by
  refine ⟨hK _ _ h.1 hL, h.2.1, h.2.2.1, h.2.2.2.1.imp id (fun q => hK _ _ q (hE _ _ _ q)), fun i hi => ?_⟩
  obtain ⟨y, a, b⟩ := h.2.2.2.2 i hi
  exact ⟨y, a, hK _ _ b (hX _ _ b)⟩
theorem SJ.st {G : Gl} {w w1 : World} {x L E F Gd cF y aT aX aY aU aV aR sz o : Nat} {bs : List Bx} {rs : List Int32} {tc : Int32} {th lx ly ux uy rf : Nat → Int32} {d : Nat → Int64} {v : Int64} (h : SJ G w x L E F Gd bs rs cF y aT aX aY aU aV aR tc th lx ly ux uy sz rf o d) (hA : w1 = va_up w o (some (.inl (G.2.1.2.1, 1, .inr (.inl (vp_updL d 0 v)))))) : SJ G w1 x L E F Gd bs rs cF y aT aX aY aU aV aR tc th lx ly ux uy sz rf o (vp_updL d 0 v) := by
  obtain ⟨hD, hM, hO, hf, hoG⟩ := h
  obtain ⟨hB, ⟨N, f, md, hLs, hN0⟩, ⟨g, hF, hg⟩, ⟨cG, dd, hGd, hcG⟩, hc⟩ := hD
  obtain ⟨hY, hT, hX, hYy, hU9, hV, hR, hDi⟩ := hM
  have hK : Kp w w1 [o] := by rw [hA]; exact Kp.up (Or.inl (List.mem_cons_self ..))
  have k1 : ∀ {a : Nat} {e : va_E}, w a = some e → e ≠ .inl (G.2.1.2.1, 1, .inr (.inl d)) → a ∉ [o] := fun {a e} ha hne hm => wne ha hO hne (List.mem_singleton.mp hm)
  exact ⟨⟨hK _ _ hB (k1 hB (by simp)), ⟨N, f, md, hLs.kS hK (k1 hLs.1 (by simp)) (fun n c f q => k1 q (by simp)) (fun a vs q => k1 q (by simp)), hN0⟩, ⟨g, hK _ _ hF (k1 hF (by simp)), hg⟩, ⟨cG, dd, hK _ _ hGd (fun hm => hoG (List.mem_singleton.mp hm).symm), hcG⟩, hc⟩,
    ⟨hK _ _ hY (k1 hY (by simp)), hK _ _ hT (k1 hT (by simp)), hK _ _ hX (k1 hX (by simp)), hK _ _ hYy (k1 hYy (by simp)), hK _ _ hU9 (k1 hU9 (by simp)), hK _ _ hV (k1 hV (by simp)), hK _ _ hR (k1 hR (by simp)), hDi⟩, by rw [hA]; exact va_up_self _ _ _, hf, hoG⟩
theorem SJ.md {G : Gl} {w w1 : World} {x L E F Gd cF y aT aX aY aU aV aR sz o : Nat} {bs : List Bx} {rs : List Int32} {tc : Int32} {th lx ly ux uy rf : Nat → Int32} {d : Nat → Int64} {tc1 : Int32} {th1 lx1 ly1 ux1 uy1 rf1 : Nat → Int32} {sz1 : Nat} (h : SJ G w x L E F Gd bs rs cF y aT aX aY aU aV aR tc th lx ly ux uy sz rf o d) (hA : MDo G w w1 y aT aX aY aU aV aR tc1 th1 lx1 ly1 ux1 uy1 sz1 rf1) : SJ G w1 x L E F Gd bs rs cF y aT aX aY aU aV aR tc1 th1 lx1 ly1 ux1 uy1 sz1 rf1 o d := by
  obtain ⟨hD, hM, hO, hf, hoG⟩ := h
  obtain ⟨f1, f2, f3, f4, f5, f6⟩ := id hf
  obtain ⟨hB, ⟨N, f, md, hLs, hN0⟩, ⟨g, hF, hg⟩, ⟨cG, dd, hGd, hcG⟩, hc⟩ := hD
  obtain ⟨hY, hT, hX, hYy, hU9, hV, hR, hDi⟩ := hM
  obtain ⟨hM1, hK⟩ := hA
  have ko : ∀ {a : Nat} {e : Nat × List Value}, w a = some (.inr e) → e.1 ≠ 3 → a ∉ [y, aT, aX, aY, aU, aV, aR] := fun {a e} ha hne => m7 (wne ha hY (fun q => hne (by rw [Sum.inr.inj q]))) (wne ha hT (by simp)) (wne ha hX (by simp)) (wne ha hYy (by simp)) (wne ha hU9 (by simp)) (wne ha hV (by simp)) (wne ha hR (by simp))
  have kr : ∀ {a n : Nat} {c : ClassId} {z : _}, w a = some (.inl (c, n, .inr z)) → a ∉ [y, aT, aX, aY, aU, aV, aR] := fun {a n c z} ha => m7 (wne ha hY (by simp)) (wne ha hT (by simp)) (wne ha hX (by simp)) (wne ha hYy (by simp)) (wne ha hU9 (by simp)) (wne ha hV (by simp)) (wne ha hR (by simp))
  exact ⟨⟨hK _ _ hB (ko hB (by simp)), ⟨N, f, md, hLs.kS hK (ko hLs.1 (by simp)) (fun n c f q => kr q) (fun a vs q => ko q (by simp)), hN0⟩, ⟨g, hK _ _ hF (m7 (wne hF hY (by simp)) f1 f2 f3 f4 f5 f6), hg⟩, ⟨cG, dd, hK _ _ hGd (kr hGd), hcG⟩, hc⟩, hM1, hK _ _ hO (kr hO), hf, hoG⟩
/-- what stands between two calls -/
def LI (G : Gl) (w : World) (x y o : Nat) (tc : Int32) (d : Nat → Int64) : Prop := ∃ (L E F Gd cF aT aX aY aU aV aR : Nat) (th lx ly ux uy rf : Nat → Int32) (rs : List Int32), SJ G w x L E F Gd (bl th lx ly ux uy 0 4096) rs cF y aT aX aY aU aV aR tc th lx ly ux uy rs.length rf o d ∧ (∀ (i : Nat) (h : i < rs.length), rf i = rs[i]) ∧ (∀ i : Nat, th i = 0 ∨ th i = 1) ∧ ∀ i : Nat, th i ≠ 0 → okB (lx i) (ly i) (ux i) (uy i)
theorem okN_ex {n : Int32} (h : okN n) : ∃ b : Nat, b < 4096 ∧ n = nI b := by
  unfold okN at h
  simp only [Int32.le_iff_toInt_le, Int32.lt_iff_toInt_lt, tI4096, tI0] at h
  refine ⟨n.toInt.toNat, by omega, ?_⟩
  refine Int32.toInt_inj.mp ?_
  rw [nI_toInt (by omega)]
  omega
