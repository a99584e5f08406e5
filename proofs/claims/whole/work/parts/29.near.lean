/-! the nearest: inserting and taking the least again and again are the same -/
def ltD (p q : Int32 × Int64) : Prop := p.2 < q.2 ∨ (p.2 = q.2 ∧ p.1 < q.1)
theorem ltD_iff {p q : Int32 × Int64} : ltD p q ↔ p.2.toInt < q.2.toInt ∨ (p.2.toInt = q.2.toInt ∧ p.1.toInt < q.1.toInt) := by
  unfold ltD
  rw [Int64.lt_iff_toInt_lt, Int32.lt_iff_toInt_lt, ← Int64.toInt_inj]
def pD (px py : Int32) (b : Bx) : Int32 × Int64 := (b.1, bDst b px py)
theorem bhd_iff {px py : Int32} {last : Int64} {lb : Int32} {b : Bx} : bhd px py last lb b ↔ ltD (lb, last) (pD px py b) := by
  unfold bhd ltD pD
  constructor
  · exact fun h => h.imp id (fun h => ⟨h.1.symm, h.2⟩)
  · exact fun h => h.imp id (fun h => ⟨h.1.symm, h.2⟩)
theorem ltD_asymm {p q : Int32 × Int64} (h1 : ltD p q) (h2 : ltD q p) : False := by
  rw [ltD_iff] at h1 h2; omega
theorem ltD_irr {p : Int32 × Int64} (h1 : ltD p p) : False := ltD_asymm h1 h1
theorem ltD_tr {p q r : Int32 × Int64} (h1 : ltD p q) (h2 : ltD q r) : ltD p r := by
  rw [ltD_iff] at *; omega
theorem insD_take (p : Int32 × Int64) : ∀ (a : List (Int32 × Int64)) (k : Nat), (insD p (a.take k)).take k = (insD p a).take k
  | [], k => by rw [List.take_nil]
  | q :: t, 0 => by rw [List.take_zero, List.take_zero]
  | q :: t, k + 1 => by
    rw [List.take_succ_cons, insD, insD]
    by_cases g : p.2 < q.2
    · rw [if_pos g, if_pos g, List.take_succ_cons, List.take_succ_cons]
      congr 1
      cases k with
      | zero => rw [List.take_zero, List.take_zero]
      | succ k => rw [List.take_succ_cons, List.take_succ_cons, List.take_take, Nat.min_eq_left (Nat.le_succ _)]
    · rw [if_neg g, if_neg g, List.take_succ_cons, List.take_succ_cons, insD_take p t k]
def insS (px py : Int32) (a : List (Int32 × Int64)) (bs : List Bx) : List (Int32 × Int64) := bs.foldl (fun a b => insD (pD px py b) a) a
theorem nrs_take {px py : Int32} {kk : Nat} : ∀ (bs : List Bx) (a : List (Int32 × Int64)), bs.foldl (stD kk px py) (a.take kk) = (insS px py a bs).take kk
  | [], a => rfl
  | b :: t, a => by
    have h : stD kk px py (a.take kk) b = (insD (pD px py b) a).take kk := insD_take _ _ _
    rw [List.foldl_cons, h, nrs_take t (insD (pD px py b) a)]
    rfl
theorem insD_len (p : Int32 × Int64) : ∀ a : List (Int32 × Int64), (insD p a).length = a.length + 1
  | [] => rfl
  | q :: t => by
    rw [insD]
    by_cases g : p.2 < q.2
    · rw [if_pos g]; rfl
    · rw [if_neg g, List.length_cons, insD_len p t, List.length_cons]
theorem insS_len {px py : Int32} : ∀ (bs : List Bx) (a : List (Int32 × Int64)), (insS px py a bs).length = a.length + bs.length
  | [], a => rfl
  | b :: t, a => by
    have := insS_len (px := px) (py := py) t (insD (pD px py b) a)
    rw [insD_len] at this
    rw [List.length_cons]
    show (insS px py (insD (pD px py b) a) t).length = _
    omega
theorem insD_in {p r : Int32 × Int64} : ∀ {ns : List (Int32 × Int64)}, (r = p ∨ r ∈ ns) → r ∈ insD p ns
  | [], h => h.elim (fun h => by rw [h]; exact List.mem_singleton.mpr rfl) (fun h => by cases h)
  | q :: t, h => by
    rw [insD]
    by_cases g : p.2 < q.2
    · rw [if_pos g]
      exact List.mem_cons.mpr h
    · rw [if_neg g]
      rcases h with h | h
      · exact List.mem_cons_of_mem _ (insD_in (Or.inl h))
      · rcases List.mem_cons.mp h with h | h
        · rw [h]; exact List.mem_cons_self ..
        · exact List.mem_cons_of_mem _ (insD_in (Or.inr h))
theorem insS_mem {px py : Int32} {q : Int32 × Int64} : ∀ (bs : List Bx) (a : List (Int32 × Int64)), q ∈ insS px py a bs ↔ q ∈ a ∨ ∃ b ∈ bs, q = pD px py b
  | [], a => ⟨Or.inl, fun h => h.elim id (fun ⟨b, hb, _⟩ => by cases hb)⟩
  | b :: t, a => by
    refine (insS_mem t (insD (pD px py b) a)).trans ⟨fun h => ?_, fun h => ?_⟩
    · rcases h with h | ⟨c, h1, h2⟩
      · rcases insD_mem h with h | h
        · exact Or.inr ⟨b, List.mem_cons_self .., h⟩
        · exact Or.inl h
      · exact Or.inr ⟨c, List.mem_cons_of_mem _ h1, h2⟩
    · rcases h with h | ⟨c, h1, h2⟩
      · exact Or.inl (insD_in (Or.inr h))
      · rcases List.mem_cons.mp h1 with h3 | h3
        · exact Or.inl (insD_in (Or.inl (by rw [h2, h3])))
        · exact Or.inr ⟨c, h3, h2⟩
theorem insD_lt {p : Int32 × Int64} : ∀ {a : List (Int32 × Int64)}, a.Pairwise ltD → (∀ q ∈ a, q.1 < p.1) → (insD p a).Pairwise ltD
  | [], _, _ => List.pairwise_singleton _ _
  | q :: t, h, hp => by
    obtain ⟨h1, h2⟩ := List.pairwise_cons.mp h
    rw [insD]
    by_cases g : p.2 < q.2
    · rw [if_pos g]
      exact List.pairwise_cons.mpr ⟨fun r hr => (List.mem_cons.mp hr).elim (fun e => by rw [e]; exact Or.inl g) (fun e => ltD_tr (Or.inl g) (h1 r e)), h⟩
    · rw [if_neg g]
      refine List.pairwise_cons.mpr ⟨fun r hr => (insD_mem hr).elim (fun e => ?_) (h1 r), insD_lt h2 (fun r hr => hp r (List.mem_cons_of_mem _ hr))⟩
      have a := Int32.lt_iff_toInt_lt.mp (hp q (List.mem_cons_self ..))
      have b := Int64.le_iff_toInt_le.mp (i64_nlt.mp g)
      rw [e, ltD_iff]
      omega
theorem insS_lt {px py : Int32} : ∀ (bs : List Bx) (a : List (Int32 × Int64)), a.Pairwise ltD → bs.Pairwise (fun x y => x.1 < y.1) → (∀ q ∈ a, ∀ b ∈ bs, q.1 < b.1) → (insS px py a bs).Pairwise ltD
  | [], _, h, _, _ => h
  | b :: t, a, h, hb, hq => by
    obtain ⟨h1, h2⟩ := List.pairwise_cons.mp hb
    exact insS_lt t _ (insD_lt h (fun q hq1 => hq q hq1 b (List.mem_cons_self ..))) h2 (fun q hq1 c hc => (insD_mem hq1).elim (fun e => by rw [e]; exact h1 c hc) (fun e => hq q e c (List.mem_cons_of_mem _ hc)))
/-- what the scan knows -/
def ScI (px py : Int32) (last : Int64) (lb : Int32) (o : Option (Int32 × Int64)) (seen : List Bx) : Prop :=
  (o = none ∧ ∀ b ∈ seen, ¬ bhd px py last lb b) ∨ ∃ p : Int32 × Int64, o = some p ∧ (∃ b ∈ seen, p = pD px py b ∧ bhd px py last lb b) ∧ ∀ b ∈ seen, bhd px py last lb b → ¬ ltD (pD px py b) p
theorem sc_spec {px py : Int32} {last : Int64} {lb : Int32} : ∀ (bs seen : List Bx) (o : Option (Int32 × Int64)), ScI px py last lb o seen → (seen ++ bs).Pairwise (fun x y => x.1 < y.1) → ScI px py last lb (scN px py last lb o bs) (seen ++ bs)
  | [], seen, o, h, _ => by rw [List.append_nil]; exact h
  | b :: t, seen, o, h, hp => by
    rw [show seen ++ b :: t = (seen ++ [b]) ++ t by simp] at hp ⊢
    refine sc_spec t (seen ++ [b]) _ ?_ hp
    have hlt : ∀ a ∈ seen, a.1 < b.1 := fun a ha => (List.pairwise_append.mp (List.pairwise_append.mp hp).1).2.2 a ha b (List.mem_singleton.mpr rfl)
    show ScI px py last lb (if b01 (bhd px py last lb b) = 0 then _ else _) (seen ++ [b])
    by_cases g : b01 (bhd px py last lb b) = 0
    · rw [if_pos g]
      have gn : ¬ bhd px py last lb b := fun q => absurd ((b01_t q).symm.trans g) (by decide)
      rcases h with ⟨h1, h2⟩ | ⟨p, h1, ⟨c, h2, h3⟩, h4⟩
      · exact Or.inl ⟨h1, fun a ha => (List.mem_append.mp ha).elim (h2 a) (fun e => by rw [List.mem_singleton.mp e]; exact gn)⟩
      · exact Or.inr ⟨p, h1, ⟨c, List.mem_append_left _ h2, h3⟩, fun a ha hb => (List.mem_append.mp ha).elim (fun e => h4 a e hb) (fun e => absurd (by rw [← List.mem_singleton.mp e]; exact hb) gn)⟩
    · rw [if_neg g]
      have gy : bhd px py last lb b := Classical.byContradiction (fun q => g (b01_f q))
      rcases h with ⟨h1, h2⟩ | ⟨p, h1, ⟨c, h2, h3, h5⟩, h4⟩
      · rw [h1]
        exact Or.inr ⟨_, rfl, ⟨b, List.mem_append_right _ (List.mem_singleton.mpr rfl), rfl, gy⟩, fun a ha hb => (List.mem_append.mp ha).elim (fun e => absurd hb (h2 a e)) (fun e => by rw [List.mem_singleton.mp e]; exact ltD_irr)⟩
      · rw [h1]
        show ScI px py last lb (if bDst b px py < p.2 then _ else _) _
        by_cases k : bDst b px py < p.2
        · rw [if_pos k]
          refine Or.inr ⟨_, rfl, ⟨b, List.mem_append_right _ (List.mem_singleton.mpr rfl), rfl, gy⟩, fun a ha hb => (List.mem_append.mp ha).elim (fun e q => h4 a e hb (ltD_tr q (Or.inl k))) (fun e => by rw [List.mem_singleton.mp e]; exact ltD_irr)⟩
        · rw [if_neg k]
          refine Or.inr ⟨p, rfl, ⟨c, List.mem_append_left _ h2, h3, h5⟩, fun a ha hb => (List.mem_append.mp ha).elim (fun e => h4 a e hb) (fun e q => ?_)⟩
          rw [List.mem_singleton.mp e] at q
          have h6 := Int32.lt_iff_toInt_lt.mp (hlt c h2)
          have h7 := Int64.le_iff_toInt_le.mp (i64_nlt.mp k)
          have h8 : p.1 = c.1 := by rw [h3]; rfl
          rw [ltD_iff] at q
          rw [h8] at q
          have e1 : (pD px py b).1 = b.1 := rfl
          have e2 : (pD px py b).2 = bDst b px py := rfl
          rw [e1, e2] at q
          omega
theorem nM_eq {px py : Int32} {B : List Bx} {S : List (Int32 × Int64)} (hB : B.Pairwise (fun x y => x.1 < y.1)) (hS : S.Pairwise ltD) (hm : ∀ q : Int32 × Int64, q ∈ S ↔ ∃ b ∈ B, q = pD px py b) : ∀ (n : Nat) (S1 T : List (Int32 × Int64)) (last : Int64) (lb : Int32), S = S1 ++ T → (∀ q ∈ S1, ¬ ltD (lb, last) q) → (∀ q ∈ T, ltD (lb, last) q) → nM px py B n last lb = T.take n
  | 0, _, T, _, _, _, _, _ => by rw [nM, List.take_zero]
  | n + 1, S1, T, last, lb, hST, h1, h2 => by
    have hsc := sc_spec (px := px) (py := py) (last := last) (lb := lb) B [] none (Or.inl ⟨rfl, fun b hb => by cases hb⟩) hB
    rw [List.nil_append] at hsc
    rw [nM]
    rcases hsc with ⟨a1, a2⟩ | ⟨p, a1, ⟨c, a2, a3, a4⟩, a5⟩
    · rw [a1]
      cases T with
      | nil => rfl
      | cons q t =>
        obtain ⟨b, b1, b2⟩ := (hm q).mp (by rw [hST]; exact List.mem_append_right _ (List.mem_cons_self ..))
        exact absurd (bhd_iff.mpr (by rw [← b2]; exact h2 q (List.mem_cons_self ..))) (a2 b b1)
    · rw [a1]
      have hpS : p ∈ S := (hm p).mpr ⟨c, a2, a3⟩
      have hpl : ltD (lb, last) p := by rw [a3]; exact bhd_iff.mp a4
      rw [hST] at hpS
      rcases List.mem_append.mp hpS with e | e
      · exact absurd hpl (h1 p e)
      · cases T with
        | nil => cases e
        | cons q t =>
          have hpw := hS
          rw [hST] at hpw
          obtain ⟨w1, w2, w3⟩ := List.pairwise_append.mp hpw
          obtain ⟨v1, v2⟩ := List.pairwise_cons.mp w2
          have hpq : p = q := by
            rcases List.mem_cons.mp e with e | e
            · exact e
            · obtain ⟨b, b1, b2⟩ := (hm q).mp (by rw [hST]; exact List.mem_append_right _ (List.mem_cons_self ..))
              exact absurd (by rw [← b2]; exact v1 p e) (a5 b b1 (bhd_iff.mpr (by rw [← b2]; exact h2 q (List.mem_cons_self ..))))
          subst hpq
          show p :: nM px py B n p.2 p.1 = _
          rw [List.take_succ_cons, nM_eq hB hS hm n (S1 ++ [p]) t p.2 p.1 (by rw [hST]; simp) (fun r hr => (List.mem_append.mp hr).elim (fun e q => ltD_asymm q (w3 r e p (List.mem_cons_self ..))) (fun e => by rw [List.mem_singleton.mp e]; exact ltD_irr)) (fun r hr => v1 r hr)]
theorem near_eq {px py : Int32} {B : List Bx} (nn : Nat) (hB : B.Pairwise (fun x y => x.1 < y.1)) (hd : ∀ b ∈ B, 0 ≤ bDst b px py) : nM px py B nn (-1) (-1) = nrs px py (min nn B.length) B := by
  have hS := insS_lt (px := px) (py := py) B [] List.Pairwise.nil hB (fun q hq => by cases hq)
  have hm : ∀ q : Int32 × Int64, q ∈ insS px py [] B ↔ ∃ b ∈ B, q = pD px py b := fun q => (insS_mem B []).trans ⟨fun h => h.elim (fun h => by cases h) id, Or.inr⟩
  have h1 := nM_eq hB hS hm nn [] (insS px py [] B) (-1) (-1) rfl (fun q hq => by cases hq) (fun q hq => by
    obtain ⟨b, b1, b2⟩ := (hm q).mp hq
    rw [b2]
    refine Or.inl ?_
    have := Int64.le_iff_toInt_le.mp (hd b b1)
    refine Int64.lt_iff_toInt_lt.mpr ?_
    show (-1 : Int64).toInt < (bDst b px py).toInt
    rw [show (-1 : Int64).toInt = -1 from rfl]
    rw [show (0 : Int64).toInt = 0 from rfl] at this
    omega)
  have h2 := nrs_take (px := px) (py := py) (kk := min nn B.length) B []
  have h3 : (insS px py [] B).length = B.length := by rw [insS_len]; exact Nat.zero_add _
  rw [h1]
  unfold nrs
  rw [List.take_nil] at h2
  rw [h2]
  by_cases h : nn ≤ B.length
  · rw [Nat.min_eq_left h]
  · rw [Nat.min_eq_right (by omega), List.take_of_length_le (by omega), List.take_of_length_le (by omega)]
theorem way_int {v lo hi : Int32} (hv : okC v) (hl : okC lo) (hh : okC hi) : 0 ≤ (way v lo hi).toInt ∧ (way v lo hi).toInt ≤ 2000000000 := by
  unfold okC at *
  simp only [Int32.le_iff_toInt_le, tI9, tIm9] at hv hl hh
  have hs : ∀ a b : Int32, -1000000000 ≤ a.toInt → a.toInt ≤ 1000000000 → -1000000000 ≤ b.toInt → b.toInt ≤ 1000000000 → (a.toInt64 - b.toInt64).toInt = a.toInt - b.toInt := fun a b h1 h2 h3 h4 => by
    rw [Int64.toInt_sub, Int32.toInt_toInt64, Int32.toInt_toInt64]
    exact Int.bmod_eq_of_le (by omega) (by omega)
  unfold way
  by_cases g : v < lo
  · rw [if_pos g, hs _ _ hl.1 hl.2 hv.1 hv.2]
    have := Int32.lt_iff_toInt_lt.mp g
    omega
  · rw [if_neg g]
    by_cases k : hi < v
    · rw [if_pos k, hs _ _ hv.1 hv.2 hh.1 hh.2]
      have := Int32.lt_iff_toInt_lt.mp k
      omega
    · rw [if_neg k]
      exact ⟨by decide, by decide⟩
theorem sq_bnd {x : Int64} (h : 0 ≤ x.toInt ∧ x.toInt ≤ 2000000000) : 0 ≤ (x * x).toInt ∧ (x * x).toInt ≤ 4000000000000000000 := by
  have h1 : 0 ≤ x.toInt * x.toInt := Int.mul_nonneg h.1 h.1
  have h2 : x.toInt * x.toInt ≤ 2000000000 * 2000000000 := Int.mul_le_mul h.2 h.2 h.1 (by decide)
  have e : (x * x).toInt = x.toInt * x.toInt := by
    rw [Int64.toInt_mul]
    exact Int.bmod_eq_of_le (by omega) (by omega)
  rw [e]
  exact ⟨h1, by omega⟩
theorem bDst_pos {b : Bx} {px py : Int32} (hb : okB b.2.1 b.2.2.1 b.2.2.2.1 b.2.2.2.2) (hp : okP px py) : 0 ≤ bDst b px py := by
  have h1 := sq_bnd (way_int hp.1 hb.1.1 hb.2.1.1)
  have h2 := sq_bnd (way_int hp.2 hb.1.2 hb.2.1.2)
  refine Int64.le_iff_toInt_le.mpr ?_
  rw [show (0 : Int64).toInt = 0 from rfl]
  unfold bDst
  rw [Int64.toInt_add, Int.bmod_eq_of_le (by omega) (by omega)]
  omega
