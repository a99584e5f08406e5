/-! nearest -/
def insD (p : Int32 × Int64) : List (Int32 × Int64) → List (Int32 × Int64)
  | [] => [p]
  | q :: t => if p.2 < q.2 then p :: q :: t else q :: insD p t
def stD (kk : Nat) (px py : Int32) (a : List (Int32 × Int64)) (b : Bx) : List (Int32 × Int64) := (insD (b.1, bDst b px py) a).take kk
def nrs (px py : Int32) (kk : Nat) (bs : List Bx) : List (Int32 × Int64) := bs.foldl (stD kk px py) []
def SrD (ns : List (Int32 × Int64)) : Prop := ns.Pairwise (fun a b => a.2 ≤ b.2)
theorem insD_pos (p : Int32 × Int64) : ∀ ns : List (Int32 × Int64), SrD ns → ∃ i : Nat, i ≤ ns.length ∧ (∀ (j : Nat) (q : Int32 × Int64), ns[j]? = some q → j < i → q.2 ≤ p.2) ∧ (∀ (j : Nat) (q : Int32 × Int64), ns[j]? = some q → i ≤ j → p.2 < q.2) ∧ insD p ns = ns.take i ++ p :: ns.drop i
  | [], _ => ⟨0, Nat.le_refl _, fun j q h => by simp at h, fun j q h => by simp at h, rfl⟩
  | q :: t, hs => by
    obtain ⟨h1, h2⟩ := List.pairwise_cons.mp hs
    by_cases h : p.2 < q.2
    · refine ⟨0, Nat.zero_le _, fun j r _ hj => absurd hj (Nat.not_lt_zero _), fun j r hr _ => ?_, by rw [insD, if_pos h]; rfl⟩
      cases j with
      | zero => rw [List.getElem?_cons_zero] at hr; cases hr; exact h
      | succ j => rw [List.getElem?_cons_succ] at hr; exact i64_ltr h (h1 r (List.mem_of_getElem? hr))
    · obtain ⟨i, a1, a2, a3, a4⟩ := insD_pos p t h2
      refine ⟨i + 1, Nat.succ_le_succ a1, fun j r hr hj => ?_, fun j r hr hj => ?_, by rw [insD, if_neg h, a4]; rfl⟩
      · cases j with
        | zero => rw [List.getElem?_cons_zero] at hr; cases hr; exact i64_nlt.mp h
        | succ j => rw [List.getElem?_cons_succ] at hr; exact a2 j r hr (Nat.lt_of_succ_lt_succ hj)
      · cases j with
        | zero => exact absurd hj (Nat.not_succ_le_zero _)
        | succ j => rw [List.getElem?_cons_succ] at hr; exact a3 j r hr (Nat.le_of_succ_le_succ hj)
theorem insD_mem {p r : Int32 × Int64} : ∀ {ns : List (Int32 × Int64)}, r ∈ insD p ns → r = p ∨ r ∈ ns
  | [], h => Or.inl (List.mem_singleton.mp h)
  | q :: t, h => by
    rw [insD] at h
    by_cases g : p.2 < q.2
    · rw [if_pos g] at h
      exact List.mem_cons.mp h
    · rw [if_neg g] at h
      rcases List.mem_cons.mp h with h | h
      · exact Or.inr (h ▸ List.mem_cons_self ..)
      · exact (insD_mem h).imp id (List.mem_cons_of_mem _)
theorem insD_sr {p : Int32 × Int64} : ∀ {ns : List (Int32 × Int64)}, SrD ns → SrD (insD p ns)
  | [], _ => List.pairwise_singleton _ _
  | q :: t, hs => by
    obtain ⟨h1, h2⟩ := List.pairwise_cons.mp hs
    rw [insD]
    by_cases g : p.2 < q.2
    · rw [if_pos g]
      have hle : p.2 ≤ q.2 := Int64.le_iff_toInt_le.mpr (Int.le_of_lt (Int64.lt_iff_toInt_lt.mp g))
      exact List.pairwise_cons.mpr ⟨fun r hr => (List.mem_cons.mp hr).elim (fun h => by rw [h]; exact hle) (fun h => i64_tr hle (h1 r h)), hs⟩
    · rw [if_neg g]
      exact List.pairwise_cons.mpr ⟨fun r hr => (insD_mem hr).elim (fun h => by rw [h]; exact i64_nlt.mp g) (h1 r), insD_sr h2⟩
theorem stD_sr {kk : Nat} {px py : Int32} {ns : List (Int32 × Int64)} {b : Bx} (h : SrD ns) : SrD (stD kk px py ns b) := List.Pairwise.sublist (List.take_sublist _ _) (insD_sr h)
theorem insA_at {α : Type} {bs : List α} {k : Nat} {b : α} (hk : k ≤ bs.length) (i : Nat) : (bs.take k ++ b :: bs.drop k)[i]? = if i < k then bs[i]? else if i = k then some b else bs[i - 1]? := by
  by_cases h1 : i < k
  · rw [if_pos h1, List.getElem?_append_left (by rw [List.length_take]; omega), List.getElem?_take, if_pos h1]
  · rw [if_neg h1, List.getElem?_append_right (by rw [List.length_take]; omega), List.length_take, Nat.min_eq_left hk]
    by_cases h2 : i = k
    · subst h2
      rw [if_pos rfl, Nat.sub_self]; rfl
    · rw [if_neg h2, show i - k = (i - 1 - k) + 1 by omega, List.getElem?_cons_succ, List.getElem?_drop, show k + (i - 1 - k) = i - 1 by omega]
/-- the drawer while the nearest are looked for -/
def NAt (G : Gl) (w : World) (x L E F Gd : Nat) (bs : List Bx) (ns : List (Int32 × Int64)) (cF cG : Nat) : Prop :=
  w x = some (.inr (2, [.ref L, .ref F, .int (nI ns.length), .ref Gd])) ∧ (∃ (N : Nat) (f : Nat → Option Nat) (md : Int32), LsAt G w L E N f md bs ∧ ((E = ge0 G ∧ N = 0) ∨ 0 < N)) ∧ ∃ (g : Nat → Int32) (d : Nat → Int64), w F = some (.inl (G.2.1.1, cF, .inl g)) ∧ w Gd = some (.inl (G.2.1.2.1, cG, .inr (.inl d))) ∧ (∀ (j : Nat) (q : Int32 × Int64), ns[j]? = some q → g j = q.1 ∧ d j = q.2) ∧ 16 ≤ cF ∧ cF ≤ 4096 ∧ cG ≤ 4096
theorem m3 {a b c d : Nat} (h1 : a ≠ b) (h2 : a ≠ c) (h3 : a ≠ d) : a ∉ [b, c, d] := fun h => by
  rcases List.mem_cons.mp h with h | h
  · exact h1 h
  · exact m2 h2 h3 h
theorem LsAt.three {G : Gl} {w w1 : World} {x L E N F Gd : Nat} {f : Nat → Option Nat} {md : Int32} {bs : List Bx} {e : List Value} {g g' : vp_A} {c c' : ClassId} (h : LsAt G w L E N f md bs) (h0 : w (ge0 G) = none) (hx : w x = some (.inr (2, e))) (hF : w F = some (.inl (c, g))) (hg : ∀ (n : Nat) (f : Nat → Option Nat), g ≠ (n, .inr (.inr (.inr (.inr f))))) (hG : w Gd = some (.inl (c', g'))) (hg' : ∀ (n : Nat) (f : Nat → Option Nat), g' ≠ (n, .inr (.inr (.inr (.inr f))))) (hK : Kp w w1 [x, F, Gd]) : LsAt G w1 L E N f md bs := by
  refine ⟨hK _ _ h.1 (m3 (wne h.1 hx (by simp)) (wne h.1 hF (by simp)) (wne h.1 hG (by simp))), h.2.1, h.2.2.1, h.2.2.2.1.imp id (fun q => hK _ _ q (m3 (h.nE h0 hx).symm (h.nA (n := 0) h0 hF hg).symm (h.nA (n := 0) h0 hG hg').symm)), fun i hi => ?_⟩
  obtain ⟨y, a, b⟩ := h.2.2.2.2 i hi
  exact ⟨y, a, hK _ _ b (m3 (wne b hx (by simp)) (wne b hF (by simp)) (wne b hG (by simp)))⟩
theorem NAt.ins {G : Gl} {w w1 : World} {x L E F Gd cF cG kk i : Nat} {bs : List Bx} {ns : List (Int32 × Int64)} {p : Int32 × Int64} {g : Nat → Int32} {d : Nat → Int64} (h : NAt G w x L E F Gd bs ns cF cG) (h0 : w (ge0 G) = none) (hF : w F = some (.inl (G.2.1.1, cF, .inl g))) (hG : w Gd = some (.inl (G.2.1.2.1, cG, .inr (.inl d)))) (hQ : InsQ G w w1 x L F Gd (min ns.length (kk - 1)) cF cG i p.1 p.2 g d) (h1 : i ≤ ns.length) (h2 : i < kk) (h3 : ns.length ≤ kk) (h4 : insD p ns = ns.take i ++ p :: ns.drop i) : NAt G w1 x L E F Gd bs ((insD p ns).take kk) cF cG := by
  obtain ⟨hB, ⟨N, f, md, hLs, hN0⟩, g0, d0, hF0, hG0, hgd, hc⟩ := h
  have e0 : g0 = g := by
    have := hF0.symm.trans hF
    simpa using this
  have e1 : d0 = d := by
    have := hG0.symm.trans hG
    simpa using this
  subst e0
  subst e1
  obtain ⟨g1, d1, a1, a2, a3, a4, a5, a6, a7, a8⟩ := hQ
  have hl : ((insD p ns).take kk).length = min ns.length (kk - 1) + 1 := by
    rw [h4, List.length_take, List.length_append, List.length_take, List.length_cons, List.length_drop]; omega
  refine ⟨by rw [hl]; exact a1, ⟨N, f, md, hLs.three h0 hB hF (fun _ _ => by simp) hG (fun _ _ => by simp) a8, hN0⟩, g1, d1, a2, a3, fun j q hq => ?_, hc⟩
  have hj : j < min ns.length (kk - 1) + 1 := by rw [← hl]; exact (List.getElem?_eq_some_iff.mp hq).1
  rw [List.getElem?_take, if_pos (by omega), h4, insA_at h1] at hq
  by_cases q1 : j < i
  · rw [if_pos q1] at hq
    rw [(a4 j q1).1, (a4 j q1).2]
    exact hgd j q hq
  · rw [if_neg q1] at hq
    by_cases q2 : j = i
    · subst q2
      rw [if_pos rfl] at hq
      cases hq
      exact ⟨a5, a6⟩
    · rw [if_neg q2] at hq
      have := a7 (j - 1) (by omega) (by omega)
      rw [show j - 1 + 1 = j by omega] at this
      rw [this.1, this.2]
      exact hgd _ q hq
theorem ins_full {kk i : Nat} {ns : List (Int32 × Int64)} {p : Int32 × Int64} (h1 : i ≤ ns.length) (h2 : kk ≤ i) (h3 : ns.length ≤ kk) (h4 : insD p ns = ns.take i ++ p :: ns.drop i) : (insD p ns).take kk = ns := by
  have e1 : i = ns.length := by omega
  have e2 : kk = ns.length := by omega
  rw [h4, e1, e2, List.take_of_length_le (Nat.le_refl _), List.take_left]
theorem NAt.out {G : Gl} {w : World} {x L E F Gd cF cG kk : Nat} {bs : List Bx} {ns : List (Int32 × Int64)} (h : NAt G w x L E F Gd bs ns cF cG) (h1 : ns.length ≤ kk) (h2 : kk ≤ cF) : DAt G w x L E F Gd bs (ns.map Prod.fst) cF := by
  obtain ⟨hB, hL, g, d, hF, hG, hgd, hc2, hc3, hcG⟩ := h
  refine ⟨by rw [List.length_map]; exact hB, hL, ⟨g, hF, fun i hi => ?_⟩, ⟨cG, d, hG, hcG⟩, by rw [List.length_map]; omega, hc2, hc3⟩
  rw [List.length_map] at hi
  rw [List.getElem_map]
  exact (hgd i _ (List.getElem?_eq_getElem hi)).1
theorem NAt.ub {d : Nat → Int64} {g : Nat → Int32} {ns : List (Int32 × Int64)} {p : Int32 × Int64} {i : Nat} (hgd : ∀ (j : Nat) (q : Int32 × Int64), ns[j]? = some q → g j = q.1 ∧ d j = q.2) (h1 : i ≤ ns.length) (h2 : ∀ (j : Nat) (q : Int32 × Int64), ns[j]? = some q → j < i → q.2 ≤ p.2) (h3 : ∀ (j : Nat) (q : Int32 × Int64), ns[j]? = some q → i ≤ j → p.2 < q.2) : Ub d ns.length p.2 i := by
  refine ⟨h1, fun j hj => ?_, fun j hj hl => ?_⟩
  · have e := List.getElem?_eq_getElem (show j < ns.length by omega)
    rw [(hgd j _ e).2]; exact h2 j _ e hj
  · have e := List.getElem?_eq_getElem hl
    rw [(hgd j _ e).2]; exact h3 j _ e hj
theorem NAt.sr {d : Nat → Int64} {g : Nat → Int32} {ns : List (Int32 × Int64)} (hgd : ∀ (j : Nat) (q : Int32 × Int64), ns[j]? = some q → g j = q.1 ∧ d j = q.2) (h : SrD ns) : SrN d ns.length := fun i j hij hj => by
  have e1 := List.getElem?_eq_getElem (show i < ns.length by omega)
  have e2 := List.getElem?_eq_getElem hj
  rw [(hgd i _ e1).2, (hgd j _ e2).2]
  exact List.pairwise_iff_getElem.mp h i j _ hj hij
theorem kp_fr {w w1 : World} {S : List Nat} {a : Nat} (hK : Kp w w1 S) (h : w1 a = none) (hS : ∀ b ∈ S, w1 b ≠ none) : w a = none := by
  cases q : w a with
  | none => rfl
  | some z =>
    by_cases hm : a ∈ S
    · exact absurd h (hS a hm)
    · rw [hK _ _ q hm] at h; cases h
theorem DAt.room {G : Gl} {w w1 : World} {x L E F F1 Gd cF c1 : Nat} {bs : List Bx} {g : Nat → Int32} (h : DAt G w x L E F Gd bs [] cF) (h0 : w (ge0 G) = none) (hn : w F1 = none) (hA : w1 = va_up (va_up w F1 (some (.inl (G.2.1.1, c1, .inl g)))) x (some (.inr (2, [.ref L, .ref F1, .int (nI 0), .ref Gd])))) (h2 : 16 ≤ c1) (h3 : c1 ≤ 4096) : DAt G w1 x L E F1 Gd bs [] c1 ∧ Kp w w1 [x] := by
  obtain ⟨hB, ⟨N, f, md, hLs, hN0⟩, ⟨g0, hF, hg⟩, ⟨cG, d, hGd, hcG⟩, hc⟩ := h
  have hK : Kp w w1 [x] := by rw [hA]; exact (Kp.up (Or.inr hn)).ups (Or.inl (List.mem_cons_self ..))
  have hK2 : Kp w w1 [x, F] := hK.mono (fun b hb => Or.inl (by rw [List.mem_singleton.mp hb]; exact List.mem_cons_self ..))
  refine ⟨⟨?_, ⟨N, f, md, hLs.two h0 hB hF (fun _ _ => by simp) hK2, hN0⟩, ⟨g, ?_, fun i hi => absurd hi (Nat.not_lt_zero _)⟩, ⟨cG, d, hK _ _ hGd (fun hm => wne hGd hB (by simp) (List.mem_singleton.mp hm)), hcG⟩, Nat.zero_le _, h2, h3⟩, hK⟩
  · rw [hA]; exact va_up_self _ _ _
  · rw [hA, va_up_ne _ _ (wnf hB hn).symm]; exact va_up_self _ _ _
theorem NAt.new {G : Gl} {w w1 : World} {x L E F Gd G1 cF : Nat} {bs : List Bx} (h : DAt G w x L E F Gd bs [] cF) (h0 : w (ge0 G) = none) (hn : w G1 = none) (h1 : w1 G1 = some (.inl (G.2.1.2.1, cF, .inr (.inl (fun _ => 0))))) (h2 : w1 x = some (.inr (2, [.ref L, .ref F, .int (nI 0), .ref G1]))) (hK : Kp w w1 [x]) : NAt G w1 x L E F G1 bs [] cF cF := by
  obtain ⟨hB, ⟨N, f, md, hLs, hN0⟩, ⟨g0, hF, hg⟩, ⟨cG, d, hGd, hcG⟩, hc⟩ := h
  have hK2 : Kp w w1 [x, F] := hK.mono (fun b hb => Or.inl (by rw [List.mem_singleton.mp hb]; exact List.mem_cons_self ..))
  exact ⟨h2, ⟨N, f, md, hLs.two h0 hB hF (fun _ _ => by simp) hK2, hN0⟩, g0, _, hK _ _ hF (fun hm => wne hF hB (by simp) (List.mem_singleton.mp hm)), h1, fun j q hq => by simp at hq, hc.2.1, hc.2.2, hc.2.2⟩
theorem NAt.old {G : Gl} {w : World} {x L E F Gd cF cG : Nat} {bs : List Bx} {d : Nat → Int64} (h : DAt G w x L E F Gd bs [] cF) (hG : w Gd = some (.inl (G.2.1.2.1, cG, .inr (.inl d)))) (hcG : cG ≤ 4096) : NAt G w x L E F Gd bs [] cF cG := by
  obtain ⟨hB, hL, ⟨g0, hF, hg⟩, -, hc⟩ := h
  exact ⟨hB, hL, g0, d, hF, hG, fun j q hq => by simp at hq, hc.2.1, hc.2.2, hcG⟩

set_option maxHeartbeats 4000000 in
set_option maxRecDepth 100000 in
theorem k_B_nearest (l : Launch) (G : Gl) (w : World) {x L E F Gd cF : Nat} {bs : List Bx} {rs : List Int32} (hD : DAt G w x L E F Gd bs rs cF) (px py : Int32) (nn : Nat) (hn1 : 1 ≤ nn) (hn2 : nn ≤ 4096) (hp9 : okP px py) (hln : bs.length ≤ 4096) :
    GnI l y_B_nearest ws_B_nearest 6 260 12300 G w [.ref x, .int px, .int py, .int (nI nn)] (fun r w1 => r = nI (nrs px py (min nn bs.length) bs).length ∧ DQ G w w1 x L E F Gd bs ((nrs px py (min nn bs.length) bs).map Prod.fst) (fun _ => True)) := by
  refine met_ent (by decide +kernel) (Nat.le_of_ble_eq_true rfl) (fun p e s m below meth c ls C0 hr hin hH hl => ?_)
  have hx := C0.1
  have hb := C0.2.1
  have hS : va_S (gA G) s.heap s.heap [] := va_S.rf
  have hA : ∀ q : Nat, s.heap.size ≤ q → gA G q := fun q h => Nat.le_trans C0.ev.2.2.2.2.2.2.2.2.2.2.2.2 h
  have hl : lv_has ls 7 [(0, .ref x), (1, .int px), (2, .int py), (3, .int (nI nn))] := hl
  obtain ⟨hB, ⟨N, f, md, hLs, hN0⟩, ⟨g, hF, hg⟩, ⟨cG, d, hGd, hcG⟩, hc1, hc2, hc3⟩ := id hD
  obtain ⟨hL1, hL2, hL3, hL4, hL5⟩ := id hLs
  have h00 := ge0_none C0 hH
  refine lv_iload_n hx hb d_B_nearest_0 rfl (lv_at hl 3 rfl) ?_
  refine lv_iconst (v := 1) hx hb d_B_nearest_1 (by decide) ?_
  refine lv_icmp_lt (tgt := 12) hx hb d_B_nearest_2 (by decide) (fun c_2 => ?_) (fun c_2 => ?_)
  · exact absurd c_2 (show ¬ nI nn < nI 1 from nI_nlt hn1 (by omega))
  · refine lv_iload_n hx hb d_B_nearest_5 rfl (lv_at hl 3 rfl) ?_
    refine lv_sipush (v := 4096) hx hb d_B_nearest_6 (by decide) ?_
    refine lv_icmp_le (tgt := 22) hx hb d_B_nearest_9 (by decide) (fun c_9 => ?_) (fun c_9 => ?_)
    · refine lv_iload_n hx hb d_B_nearest_22 rfl (lv_at hl 1 rfl) ?_
      refine lv_iload_n hx hb d_B_nearest_23 rfl (lv_at hl 2 rfl) ?_
      refine pu_n (runS C0 (k_B_requirePlace l G w px py hp9) (cs_B_90 C0 ⟨Nat.le_of_ble_eq_true rfl, Nat.le_of_ble_eq_true rfl⟩) hH hS rfl hl.1 rfl (lv_room (Nat.le_of_ble_eq_true rfl)) d_B_nearest_24 ⟨by show _ ≤ 260; omega, by show _ ≤ 12300; omega⟩) ?_
      obtain ⟨kk, hkk⟩ : ∃ z : Nat, z = min nn bs.length := ⟨_, rfl⟩
      have loop : ∀ (u j : Nat), j + u = bs.length → ∀ (w9 : World) (F9 G9 cF9 cG9 ce sl : Nat) (ns : List (Int32 × Int64)) (H : Heap) (locs : List Loc), Hw G w9 H → va_S (gA G) s.heap H locs → NAt G w9 x L E F9 G9 bs ns cF9 cG9 → kk ≤ cF9 → kk ≤ cG9 → ns.length ≤ kk → SrD ns → Kp w w9 [x, F, Gd] → (F9 = F ∨ w F9 = none) → (G9 = Gd ∨ w G9 = none) → ce ≤ 260 → sl ≤ 12300 → (bs.drop j).foldl (stD kk px py) ns = (nrs px py (min nn bs.length) bs) → ∀ ls : Array Slot, lv_has ls 7 [(0, .ref x), (1, .int px), (2, .int py), (4, .int (nI kk)), (5, .int (nI j))] → W p l e (rmK 6 260 12300) s m [.ref x, .int px, .int py, .int (nI nn)].toArray below meth c H locs ce sl (MQ below (va_Qi (fun r w1 => r = nI (nrs px py (min nn bs.length) bs).length ∧ DQ G w w1 x L E F Gd bs ((nrs px py (min nn bs.length) bs).map Prod.fst) (fun _ => True)) (Wo G) (gA G)) [.ref x, .int px, .int py, .int (nI nn)].toArray s 260 12300 (gA G)) (F0 m 58 ls []) := by
        intro u
        induction u with
        | zero =>
          intro j hj w9 F9 G9 cF9 cG9 ce sl ns H locs hH hS hD9 hkF hkG hnk hsr hK9 hFf hGf hce hsl hfo ls hl
          obtain ⟨hB9, ⟨N9, f9, md9, hLs9, hN9⟩, g9, d9, hF9, hG9, hgd9, hc29, hc39, hcG9⟩ := id hD9
          obtain ⟨hL19, hL29, hL39, hL49, hL59⟩ := id hLs9
          have h09 := ge0_none C0 hH
          refine lv_iload hx hb d_B_nearest_58 (lv_at hl 4 rfl) ?_
          refine lv_aload_n hx hb d_B_nearest_60 rfl (lv_at hl 0 rfl) ?_
          refine gf_B_10 C0 hH hB9 rfl d_B_nearest_61 ?_
          refine pu_v (runV C0 (k_A_size l G w9 hL19) (cs_B_61 C0 ⟨Nat.le_of_ble_eq_true rfl, Nat.le_of_ble_eq_true rfl⟩) hH hS (hd_recv C0.hK hH rfl hL19) rfl hl.1 rfl (lv_room (Nat.le_of_ble_eq_true rfl)) d_B_nearest_64 ⟨by show _ ≤ 260; omega, by show _ ≤ 12300; omega⟩) ?_
          refine lv_icmp_ge (tgt := 108) hx hb d_B_nearest_67 (by decide) (fun c_67 => ?_) (fun c_67 => ?_)
          · have hfin : ns = (nrs px py (min nn bs.length) bs) := by rw [← hfo, List.drop_eq_nil_of_le (by omega), List.foldl_nil]
            refine lv_aload_n hx hb d_B_nearest_108 rfl (lv_at hl 0 rfl) ?_
            refine gf_B_20 C0 hH hB9 rfl d_B_nearest_109 ?_
            refine W.widen (k := 260) (n := 12300) (by omega) (by omega) ?_
            exact W.iret hx hb hr (fun t ht hW => ⟨⟨(nI ns.length), w9, rfl, ⟨by rw [hfin], by rw [← hfin]; exact ⟨E, F9, G9, cF9, Or.inl rfl, hFf, hGf, hD9.out hnk hkF, hK9.mono (fun b hb => Or.inl (by rcases List.mem_cons.mp hb with q | hb; (· simp [q]); (· rcases List.mem_cons.mp hb with q | q; (· simp [q]); (· simp [List.mem_singleton.mp q])))), trivial⟩⟩, Wo.at C0.ev hH hS ht hW⟩, hS.F ht⟩) hS.2.2 d_B_nearest_112 (hlocks := C0.2.2.2.2.2.2)
          · exact absurd (nI_le (show bs.length ≤ j by omega) (by omega)) c_67
        | succ u ih =>
          intro j hj w9 F9 G9 cF9 cG9 ce sl ns H locs hH hS hD9 hkF hkG hnk hsr hK9 hFf hGf hce hsl hfo ls hl
          obtain ⟨hB9, ⟨N9, f9, md9, hLs9, hN9⟩, g9, d9, hF9, hG9, hgd9, hc29, hc39, hcG9⟩ := id hD9
          obtain ⟨hL19, hL29, hL39, hL49, hL59⟩ := id hLs9
          have h09 := ge0_none C0 hH
          refine lv_iload hx hb d_B_nearest_58 (lv_at hl 4 rfl) ?_
          refine lv_aload_n hx hb d_B_nearest_60 rfl (lv_at hl 0 rfl) ?_
          refine gf_B_10 C0 hH hB9 rfl d_B_nearest_61 ?_
          refine pu_v (runV C0 (k_A_size l G w9 hL19) (cs_B_61 C0 ⟨Nat.le_of_ble_eq_true rfl, Nat.le_of_ble_eq_true rfl⟩) hH hS (hd_recv C0.hK hH rfl hL19) rfl hl.1 rfl (lv_room (Nat.le_of_ble_eq_true rfl)) d_B_nearest_64 ⟨by show _ ≤ 260; omega, by show _ ≤ 12300; omega⟩) ?_
          refine lv_icmp_ge (tgt := 108) hx hb d_B_nearest_67 (by decide) (fun c_67 => ?_) (fun c_67 => ?_)
          · exact absurd c_67 (Int32.not_le.mpr (nI_lt (show j < bs.length by omega) (by omega)))
          · have hjl : j < bs.length := by omega
            refine lv_aload_n hx hb d_B_nearest_70 rfl (lv_at hl 0 rfl) ?_
            refine gf_B_10 C0 hH hB9 rfl d_B_nearest_71 ?_
            refine lv_iload hx hb d_B_nearest_74 (lv_at hl 4 rfl) ?_
            obtain ⟨xj, hf_xj, h_xj⟩ := hL59 j hjl
            refine pu_v (runV C0 (k_A_get l G w9 hL19 (hLs9.arr (by omega)) (i := j) (by omega) hL29 (by omega) hf_xj) (cs_B_75 C0 ⟨Nat.le_of_ble_eq_true rfl, Nat.le_of_ble_eq_true rfl⟩) hH hS (hd_recv C0.hK hH rfl hL19) rfl hl.1 rfl (lv_room (Nat.le_of_ble_eq_true rfl)) d_B_nearest_76 ⟨by show _ ≤ 260; omega, by show _ ≤ 12300; omega⟩) ?_
            refine va_castY hx hb C0.2.2.2.1 (C0.2.2.2.2.1 _ mw_104) (C0.ev.2.2.2.2.2.2.1 (Cond.castable "BoxDrawer$Box" "BoxDrawer$Box") (by decide +kernel)) (hd_recv C0.hK hH rfl h_xj) d_B_nearest_79 ?_
            refine lv_astore (lv' := [(6, .ref xj), (0, .ref x), (1, .int px), (2, .int py), (4, .int (nI kk)), (5, .int (nI j))]) hx hb d_B_nearest_82 hl (by decide) rfl (fun ls hl => ?_)
            refine lv_aload_n hx hb d_B_nearest_84 rfl (lv_at hl 1 rfl) ?_
            refine lv_aload hx hb d_B_nearest_85 (lv_at hl 0 rfl) ?_
            refine gf_B_82 C0 hH h_xj rfl d_B_nearest_87 ?_
            refine lv_aload hx hb d_B_nearest_90 (lv_at hl 0 rfl) ?_
            refine lv_iload_n hx hb d_B_nearest_92 rfl (lv_at hl 2 rfl) ?_
            refine lv_iload_n hx hb d_B_nearest_93 rfl (lv_at hl 3 rfl) ?_
            refine pu_v (runVN C0 (k_X_distanceFrom l G w9 px py h_xj) (cs_B_106 C0 ⟨Nat.le_of_ble_eq_true rfl, Nat.le_of_ble_eq_true rfl⟩) hH hS (hd_recv C0.hK hH rfl h_xj) rfl hl.1 rfl (lv_room (Nat.le_of_ble_eq_true rfl)) d_B_nearest_94 ⟨by show _ ≤ 260; omega, by show _ ≤ 12300; omega⟩) ?_
            refine lv_iload hx hb d_B_nearest_97 (lv_at hl 4 rfl) ?_
            obtain ⟨i9, hi1, hi2, hi3, hi4⟩ := insD_pos (bs[j].1, bDst bs[j] px py) ns hsr
            by_cases hik : i9 < kk
            · refine gn_v (runV C0 (k_B_insD1 l G w9 hB9 hF9 hG9 (bs[j].1) (bDst bs[j] px py) kk i9 (by omega) hcG9 hkF hc39 hkG hnk (NAt.sr hgd9 hsr) (NAt.ub (p := (bs[j].1, bDst bs[j] px py)) hgd9 hi1 hi2 hi3) hik) (cs_B_110 C0 ⟨Nat.le_of_ble_eq_true rfl, Nat.le_of_ble_eq_true rfl⟩) hH hS (hd_recv C0.hK hH rfl hB9) rfl hl.1 rfl (lv_room (Nat.le_of_ble_eq_true rfl)) d_B_nearest_99 ⟨by show _ ≤ 260; omega, by show _ ≤ 12300; omega⟩) hS (fun w1 H locs hp1 hH hS => ?_)
              have hK8 : Kp w9 w1 [x, F9, G9] := by obtain ⟨_, _, _, _, _, _, _, _, _, h⟩ := hp1; exact h
              have hD8 := NAt.ins (p := (bs[j].1, bDst bs[j] px py)) hD9 h09 hF9 hG9 hp1 hi1 hik hnk hi4
              obtain ⟨y_1, ey_1⟩ : ∃ z : Int32, z = (nI j) + 1 := ⟨_, rfl⟩
              refine lv_iinc (v := y_1) (lv' := [(5, .int y_1), (6, .ref xj), (0, .ref x), (1, .int px), (2, .int py), (4, .int (nI kk))]) hx hb d_B_nearest_102 hl (k := 5) rfl (by rw [ey_1]; rfl) (by decide) rfl (fun ls hl => ?_)
              refine lv_goto (tgt := 58) hx hb d_B_nearest_105 (by decide) ?_
              rw [show y_1 = nI (j + 1) from by rw [ey_1]; exact nI_1 j] at hl
              refine ih (j + 1) (by omega) w1 F9 G9 cF9 cG9 ce sl _ H locs hH hS hD8 hkF hkG (by rw [List.length_take]; exact Nat.min_le_left _ _) (stD_sr (b := bs[j]) hsr) (hK9.trans hK8 (fun b hb => ?_)) hFf hGf hce hsl (by rw [← hfo, List.drop_eq_getElem_cons hjl, List.foldl_cons]; rfl) ls (lv_sub hl [2, 3, 4, 5, 0] rfl)
              rcases List.mem_cons.mp hb with q | hb
              · exact Or.inl (by simp [q])
              · rcases List.mem_cons.mp hb with q | q
                · rw [q]; exact hFf.imp (fun h => by simp [h]) id
                · rw [List.mem_singleton.mp q]; exact hGf.imp (fun h => by simp [h]) id
            · have hsame := ins_full hi1 (Nat.le_of_not_lt hik) hnk hi4
              refine pu_n (runV C0 (k_B_insD0 l G w9 hB9 hF9 hG9 (bs[j].1) (bDst bs[j] px py) kk i9 (by omega) hcG9 hkF hc39 hkG hnk (NAt.sr hgd9 hsr) (NAt.ub (p := (bs[j].1, bDst bs[j] px py)) hgd9 hi1 hi2 hi3) (Nat.le_of_not_lt hik)) (cs_B_110 C0 ⟨Nat.le_of_ble_eq_true rfl, Nat.le_of_ble_eq_true rfl⟩) hH hS (hd_recv C0.hK hH rfl hB9) rfl hl.1 rfl (lv_room (Nat.le_of_ble_eq_true rfl)) d_B_nearest_99 ⟨by show _ ≤ 260; omega, by show _ ≤ 12300; omega⟩) ?_
              obtain ⟨y_2, ey_2⟩ : ∃ z : Int32, z = (nI j) + 1 := ⟨_, rfl⟩
              refine lv_iinc (v := y_2) (lv' := [(5, .int y_2), (6, .ref xj), (0, .ref x), (1, .int px), (2, .int py), (4, .int (nI kk))]) hx hb d_B_nearest_102 hl (k := 5) rfl (by rw [ey_2]; rfl) (by decide) rfl (fun ls hl => ?_)
              refine lv_goto (tgt := 58) hx hb d_B_nearest_105 (by decide) ?_
              rw [show y_2 = nI (j + 1) from by rw [ey_2]; exact nI_1 j] at hl
              exact ih (j + 1) (by omega) w9 F9 G9 cF9 cG9 ce sl ns H locs hH hS hD9 hkF hkG hnk hsr hK9 hFf hGf hce hsl (by rw [← hfo, List.drop_eq_getElem_cons hjl, List.foldl_cons, stD, hsame]) ls (lv_sub hl [2, 3, 4, 5, 0] rfl)
      refine lv_iload_n hx hb d_B_nearest_27 rfl (lv_at hl 3 rfl) ?_
      refine lv_aload_n hx hb d_B_nearest_28 rfl (lv_at hl 0 rfl) ?_
      refine gf_B_10 C0 hH hB rfl d_B_nearest_29 ?_
      refine pu_v (runV C0 (k_A_size l G w hL1) (cs_B_61 C0 ⟨Nat.le_of_ble_eq_true rfl, Nat.le_of_ble_eq_true rfl⟩) hH hS (hd_recv C0.hK hH rfl hL1) rfl hl.1 rfl (lv_room (Nat.le_of_ble_eq_true rfl)) d_B_nearest_32 ⟨by show _ ≤ 260; omega, by show _ ≤ 12300; omega⟩) ?_
      refine va_mmin hx hb (C0.2.2.1.trans hl.1.symm) C0.2.2.2.1 (C0.2.2.2.2.1 _ mw_121) (C0.2.2.2.2.1 _ mw_122) (C0.2.2.2.2.1 _ mw_19) (C0.2.2.2.2.1 _ mw_123) (Nat.le_of_ble_eq_true rfl) (Nat.le_of_ble_eq_true rfl) (by show _ ≤ 260; omega) (by show _ ≤ 12300; omega) d_B_nearest_35 ?_
      rw [show (if (nI bs.length) < (nI nn) then (nI bs.length) else (nI nn)) = nI kk from ((min_nI (by omega) (by omega)).trans (by rw [hkk]))]
      refine lv_istore (lv' := [(4, .int (nI kk)), (0, .ref x), (1, .int px), (2, .int py), (3, .int (nI nn))]) hx hb d_B_nearest_38 hl (by decide) rfl (fun ls hl => ?_)
      refine lv_aload_n hx hb d_B_nearest_40 rfl (lv_at hl 1 rfl) ?_
      refine lv_iconst (v := 0) hx hb d_B_nearest_41 (by decide) ?_
      refine pf_B_20 C0 hH hS hB rfl rfl (Nat.le_of_ble_eq_true rfl) d_B_nearest_42 (fun H locs hH hS => ?_)
      obtain ⟨w2, ew2⟩ : ∃ z : World, z = va_up w x (some (.inr (2, [.ref L, .ref F, .int 0, .ref Gd]))) := ⟨_, rfl⟩
      have hH : Hw G w2 H := by rw [ew2]; exact hH
      have hw2_L : w2 L = some (.inr (0, [.int md, .ref E, .int (nI bs.length)])) := by rw [ew2, va_up_ne _ _ (wne hL1 hB (by simp))]; exact hL1
      have hw2_x : w2 x = some (.inr (2, [.ref L, .ref F, .int 0, .ref Gd])) := by rw [ew2]; exact va_up_self _ _ _
      refine lv_aload_n hx hb d_B_nearest_45 rfl (lv_at hl 1 rfl) ?_
      refine lv_iload hx hb d_B_nearest_46 (lv_at hl 0 rfl) ?_
      obtain ⟨hD3, hK3⟩ := DAt.res0 hD h00 ew2
      have h03 := ge0_none C0 hH
      obtain ⟨hB3, ⟨N3, f3, md3, hLs3, hN3⟩, ⟨g3, hF3, hg3⟩, ⟨cG3, d3, hGd3, hcG3⟩, hc13, hc23, hc33⟩ := id hD3
      by_cases hro : kk ≤ cF
      · refine pu_n (runV C0 (k_B_makeRoom0 l G w2 hB3 hF3 kk (Or.inl hro) (by omega) hc33) (cs_B_100 C0 ⟨Nat.le_of_ble_eq_true rfl, Nat.le_of_ble_eq_true rfl⟩) hH hS (hd_recv C0.hK hH rfl hw2_x) rfl hl.1 rfl (lv_room (Nat.le_of_ble_eq_true rfl)) d_B_nearest_48 ⟨by show _ ≤ 260; omega, by show _ ≤ 12300; omega⟩) ?_
        have hD4 := hD3
        have hK4 : Kp w w2 [x, F, Gd] := hK3.mono (fun b hb => Or.inl (by rcases List.mem_cons.mp hb with q | q; (· simp [q]); (· simp [List.mem_singleton.mp q])))
        have hkc : kk ≤ cF := hro
        have h04 := h03
        refine lv_aload_n hx hb d_B_nearest_51 rfl (lv_at hl 1 rfl) ?_
        obtain ⟨hB5, ⟨N5, f5, md5, hLs5, hN5⟩, ⟨g5, hF5, hg5⟩, ⟨cG5, d5, hGd5, hcG5⟩, hc15, hc25, hc35⟩ := id hD4
        by_cases hmr : cF ≤ cG5
        · refine pu_n (runV C0 (k_B_mrd0 l G w2 hB5 hF5 hGd5 hmr hcG5) (cs_B_103 C0 ⟨Nat.le_of_ble_eq_true rfl, Nat.le_of_ble_eq_true rfl⟩) hH hS (hd_recv C0.hK hH rfl hB3) rfl hl.1 rfl (lv_room (Nat.le_of_ble_eq_true rfl)) d_B_nearest_52 ⟨by show _ ≤ 260; omega, by show _ ≤ 12300; omega⟩) ?_
          have hN9 := NAt.old hD4 hGd5 hcG5
          refine lv_iconst (v := 0) hx hb d_B_nearest_55 (by decide) ?_
          refine lv_istore (lv' := [(5, .int 0), (4, .int (nI kk)), (0, .ref x), (1, .int px), (2, .int py), (3, .int (nI nn))]) hx hb d_B_nearest_56 hl (by decide) rfl (fun ls hl => ?_)
          exact loop bs.length 0 (by omega) w2 F Gd cF cG5 _ _ [] H locs hH hS hN9 (by omega) (by omega) (Nat.zero_le _) List.Pairwise.nil hK4 (Or.inl rfl) (Or.inl rfl) (by omega) (by omega) (by rw [hkk]; rfl) ls (lv_sub hl [2, 3, 4, 1, 0] rfl)
        · have hfr : ∀ b ∈ [x, F, Gd], w2 b ≠ none := fun b hb => by rcases List.mem_cons.mp hb with q | hb; (· rw [q, hB5]; simp); (· rcases List.mem_cons.mp hb with q | q; (· rw [q, hF5]; simp); (· rw [List.mem_singleton.mp q, hGd5]; simp))
          refine gn_v (runV C0 (k_B_mrd1 l G w2 hB5 hF5 hGd5 (Nat.lt_of_not_le hmr) hc35) (cs_B_103 C0 ⟨Nat.le_of_ble_eq_true rfl, Nat.le_of_ble_eq_true rfl⟩) hH hS (hd_recv C0.hK hH rfl hB3) rfl hl.1 rfl (lv_room (Nat.le_of_ble_eq_true rfl)) d_B_nearest_52 ⟨by show _ ≤ 260; omega, by show _ ≤ 12300; omega⟩) hS (fun w3 H locs hp3 hH hS => ?_)
          obtain ⟨G6, hnG6, hG6, hx6, hK6⟩ := hp3
          have hN9 := NAt.new hD4 h04 hnG6 hG6 hx6 hK6
          have hfG6 : w G6 = none := kp_fr (S := [x, F, Gd]) hK4 hnG6 (fun b hb => hfr b hb)
          have hK7 : Kp w w3 [x, F, Gd] := hK4.trans hK6 (fun b hb => Or.inl (by simp [List.mem_singleton.mp hb]))
          refine lv_iconst (v := 0) hx hb d_B_nearest_55 (by decide) ?_
          refine lv_istore (lv' := [(5, .int 0), (4, .int (nI kk)), (0, .ref x), (1, .int px), (2, .int py), (3, .int (nI nn))]) hx hb d_B_nearest_56 hl (by decide) rfl (fun ls hl => ?_)
          exact loop bs.length 0 (by omega) w3 F G6 cF cF _ _ [] H locs hH hS hN9 (by omega) (by omega) (Nat.zero_le _) List.Pairwise.nil hK7 (Or.inl rfl) (Or.inr hfG6) (by omega) (by omega) (by rw [hkk]; rfl) ls (lv_sub hl [2, 3, 4, 1, 0] rfl)
      · obtain ⟨c4, hc4⟩ : ∃ z : Nat, z = min (max kk (2 * cF)) 4096 := ⟨_, rfl⟩
        refine gn_v (runV C0 (k_B_makeRoom1 l G w2 hB3 hF3 kk c4 (by omega) (by omega) (by omega) hc4) (cs_B_100 C0 ⟨Nat.le_of_ble_eq_true rfl, Nat.le_of_ble_eq_true rfl⟩) hH hS (hd_recv C0.hK hH rfl hw2_x) rfl hl.1 rfl (lv_room (Nat.le_of_ble_eq_true rfl)) d_B_nearest_48 ⟨by show _ ≤ 260; omega, by show _ ≤ 12300; omega⟩) hS (fun w4 H locs hp4 hH hS => ?_)
        obtain ⟨F4, hnF4, ew4⟩ := hp4
        obtain ⟨hD4, hKx⟩ := DAt.room hD3 h03 hnF4 ew4 (by omega) (by omega)
        have h04 := ge0_none C0 hH
        have hB4 := hD4.1
        have hfF4 : w F4 = none := kp_fr hK3 hnF4 (fun b hb => by rcases List.mem_cons.mp hb with q | q; (· rw [q, hB3]; simp); (· rw [List.mem_singleton.mp q, hF3]; simp))
        have hK4 : Kp w w4 [x, F, Gd] := (hK3.mono (fun b hb => Or.inl (by rcases List.mem_cons.mp hb with q | q; (· simp [q]); (· simp [List.mem_singleton.mp q])))).trans hKx (fun b hb => Or.inl (by simp [List.mem_singleton.mp hb]))
        have hkc : kk ≤ c4 := by omega
        refine lv_aload_n hx hb d_B_nearest_51 rfl (lv_at hl 1 rfl) ?_
        obtain ⟨hB5, ⟨N5, f5, md5, hLs5, hN5⟩, ⟨g5, hF5, hg5⟩, ⟨cG5, d5, hGd5, hcG5⟩, hc15, hc25, hc35⟩ := id hD4
        by_cases hmr : c4 ≤ cG5
        · refine pu_n (runV C0 (k_B_mrd0 l G w4 hB5 hF5 hGd5 hmr hcG5) (cs_B_103 C0 ⟨Nat.le_of_ble_eq_true rfl, Nat.le_of_ble_eq_true rfl⟩) hH hS (hd_recv C0.hK hH rfl hB4) rfl hl.1 rfl (lv_room (Nat.le_of_ble_eq_true rfl)) d_B_nearest_52 ⟨by show _ ≤ 260; omega, by show _ ≤ 12300; omega⟩) ?_
          have hN9 := NAt.old hD4 hGd5 hcG5
          refine lv_iconst (v := 0) hx hb d_B_nearest_55 (by decide) ?_
          refine lv_istore (lv' := [(5, .int 0), (4, .int (nI kk)), (0, .ref x), (1, .int px), (2, .int py), (3, .int (nI nn))]) hx hb d_B_nearest_56 hl (by decide) rfl (fun ls hl => ?_)
          exact loop bs.length 0 (by omega) w4 F4 Gd c4 cG5 _ _ [] H locs hH hS hN9 (by omega) (by omega) (Nat.zero_le _) List.Pairwise.nil hK4 (Or.inr hfF4) (Or.inl rfl) (by omega) (by omega) (by rw [hkk]; rfl) ls (lv_sub hl [2, 3, 4, 1, 0] rfl)
        · have hfr : ∀ b ∈ [x, F, Gd], w4 b ≠ none := fun b hb => by rcases List.mem_cons.mp hb with q | hb; (· rw [q, hB5]; simp); (· rcases List.mem_cons.mp hb with q | q; (· rw [q, hKx _ _ hF3 (fun hm => wne hF3 hB3 (by simp) (List.mem_singleton.mp hm))]; simp); (· rw [List.mem_singleton.mp q, hGd5]; simp))
          refine gn_v (runV C0 (k_B_mrd1 l G w4 hB5 hF5 hGd5 (Nat.lt_of_not_le hmr) hc35) (cs_B_103 C0 ⟨Nat.le_of_ble_eq_true rfl, Nat.le_of_ble_eq_true rfl⟩) hH hS (hd_recv C0.hK hH rfl hB4) rfl hl.1 rfl (lv_room (Nat.le_of_ble_eq_true rfl)) d_B_nearest_52 ⟨by show _ ≤ 260; omega, by show _ ≤ 12300; omega⟩) hS (fun w5 H locs hp5 hH hS => ?_)
          obtain ⟨G6, hnG6, hG6, hx6, hK6⟩ := hp5
          have hN9 := NAt.new hD4 h04 hnG6 hG6 hx6 hK6
          have hfG6 : w G6 = none := kp_fr (S := [x, F, Gd]) hK4 hnG6 (fun b hb => hfr b hb)
          have hK7 : Kp w w5 [x, F, Gd] := hK4.trans hK6 (fun b hb => Or.inl (by simp [List.mem_singleton.mp hb]))
          refine lv_iconst (v := 0) hx hb d_B_nearest_55 (by decide) ?_
          refine lv_istore (lv' := [(5, .int 0), (4, .int (nI kk)), (0, .ref x), (1, .int px), (2, .int py), (3, .int (nI nn))]) hx hb d_B_nearest_56 hl (by decide) rfl (fun ls hl => ?_)
          exact loop bs.length 0 (by omega) w5 F4 G6 c4 c4 _ _ [] H locs hH hS hN9 (by omega) (by omega) (Nat.zero_le _) List.Pairwise.nil hK7 (Or.inr hfF4) (Or.inr hfG6) (by omega) (by omega) (by rw [hkk]; rfl) ls (lv_sub hl [2, 3, 4, 1, 0] rfl)
    · exact absurd (show nI nn ≤ nI 4096 from nI_le hn2 (by omega)) c_9

def okM (n : Int32) : Prop := 1 ≤ n ∧ n ≤ 4096

set_option maxHeartbeats 4000000 in
set_option maxRecDepth 100000 in
theorem t_B_nearest0 (l : Launch) (hlt : l.stackTraces = false) (G : Gl) (w : World) {x : Nat} (px py n : Int32) (h : ¬ okM n) :
    ThM l y_B_nearest ws_B_nearest 8 G w [.ref x, .int px, .int py, .int n] "java/lang/IllegalArgumentException" := by
  refine th_ent (by decide +kernel) (Nat.le_of_ble_eq_true rfl) (fun p e s m below meth c ls C0 ht hH hl => ?_)
  have hx := C0.1
  have hb := C0.2.1
  have hS : va_S (gA G) s.heap s.heap [] := va_S.rf
  have hl : lv_has ls 7 [(0, .ref x), (1, .int px), (2, .int py), (3, .int n)] := hl
  refine lv_iload_n hx hb d_B_nearest_0 rfl (lv_at hl 3 rfl) ?_
  refine lv_iconst (v := 1) hx hb d_B_nearest_1 (by decide) ?_
  refine lv_icmp_lt (tgt := 12) hx hb d_B_nearest_2 (by decide) (fun c_2 => ?_) (fun c_2 => ?_)
  · exact th_throw (text := "n is none of 1 .. 4096") hlt C0 (by decide +kernel) mw_230 mw_10 at_ia og_ia (by decide +kernel) hl.1 d_B_nearest_12 d_B_nearest_15 d_B_nearest_16 d_B_nearest_18 d_B_nearest_21 ht (by decide)
  · refine lv_iload_n hx hb d_B_nearest_5 rfl (lv_at hl 3 rfl) ?_
    refine lv_sipush (v := 4096) hx hb d_B_nearest_6 (by decide) ?_
    refine lv_icmp_le (tgt := 22) hx hb d_B_nearest_9 (by decide) (fun c_9 => ?_) (fun c_9 => ?_)
    · exact absurd (by unfold okM; revert c_9 c_2; simp only [Int32.le_iff_toInt_le, Int32.lt_iff_toInt_lt, tI9, tIm9, tI4096, tI3, tI2, tI1, tI0]; omega) h
    · exact th_throw (text := "n is none of 1 .. 4096") hlt C0 (by decide +kernel) mw_230 mw_10 at_ia og_ia (by decide +kernel) hl.1 d_B_nearest_12 d_B_nearest_15 d_B_nearest_16 d_B_nearest_18 d_B_nearest_21 ht (by decide)

set_option maxHeartbeats 4000000 in
set_option maxRecDepth 100000 in
theorem t_B_nearest1 (l : Launch) (hlt : l.stackTraces = false) (G : Gl) (w : World) {x : Nat} (px py n : Int32) (hm : okM n) (h : ¬ okP px py) :
    ThM l y_B_nearest ws_B_nearest 8 G w [.ref x, .int px, .int py, .int n] "java/lang/IllegalArgumentException" := by
  refine th_ent (by decide +kernel) (Nat.le_of_ble_eq_true rfl) (fun p e s m below meth c ls C0 ht hH hl => ?_)
  have hx := C0.1
  have hb := C0.2.1
  have hS : va_S (gA G) s.heap s.heap [] := va_S.rf
  have hl : lv_has ls 7 [(0, .ref x), (1, .int px), (2, .int py), (3, .int n)] := hl
  refine lv_iload_n hx hb d_B_nearest_0 rfl (lv_at hl 3 rfl) ?_
  refine lv_iconst (v := 1) hx hb d_B_nearest_1 (by decide) ?_
  refine lv_icmp_lt (tgt := 12) hx hb d_B_nearest_2 (by decide) (fun c_2 => ?_) (fun c_2 => ?_)
  · exact absurd hm (by unfold okM; revert c_2; simp only [Int32.le_iff_toInt_le, Int32.lt_iff_toInt_lt, tI9, tIm9, tI4096, tI3, tI2, tI1, tI0]; omega)
  · refine lv_iload_n hx hb d_B_nearest_5 rfl (lv_at hl 3 rfl) ?_
    refine lv_sipush (v := 4096) hx hb d_B_nearest_6 (by decide) ?_
    refine lv_icmp_le (tgt := 22) hx hb d_B_nearest_9 (by decide) (fun c_9 => ?_) (fun c_9 => ?_)
    · refine lv_iload_n hx hb d_B_nearest_22 rfl (lv_at hl 1 rfl) ?_
      refine lv_iload_n hx hb d_B_nearest_23 rfl (lv_at hl 2 rfl) ?_
      exact th_out ht C0.2.2.2.2.2.2 (xrunS C0 (t_B_requirePlace l hlt G w px py h) (cs_B_90 C0 ⟨by decide, by decide⟩) hH hS rfl hl.1 rfl (lv_room (Nat.le_of_ble_eq_true rfl)) d_B_nearest_24 ⟨Nat.le_refl _, Nat.le_refl _⟩)
    · exact absurd hm (by unfold okM; revert c_9 c_2; simp only [Int32.le_iff_toInt_le, Int32.lt_iff_toInt_lt, tI9, tIm9, tI4096, tI3, tI2, tI1, tI0]; omega)
