/-! the drawer's list is the model's boxes, in the order of their numbers -/
section BL
variable {th lx ly ux uy : Nat → Int32}
theorem bl_add (j u v : Nat) : bl th lx ly ux uy j (u + v) = bl th lx ly ux uy j u ++ bl th lx ly ux uy (j + u) v := by
  induction u generalizing j with
  | zero => rw [Nat.zero_add, bl]; rfl
  | succ u ih =>
    rw [show u + 1 + v = (u + v) + 1 by omega, bl, bl, ih (j + 1), show j + 1 + u = j + (u + 1) by omega]
    by_cases h : th j = 0
    · rw [if_pos h, if_pos h]
    · rw [if_neg h, if_neg h]; rfl
theorem bl_congr {th1 lx1 ly1 ux1 uy1 : Nat → Int32} (j u : Nat) (h : ∀ i : Nat, j ≤ i → i < j + u → th i = th1 i ∧ lx i = lx1 i ∧ ly i = ly1 i ∧ ux i = ux1 i ∧ uy i = uy1 i) : bl th lx ly ux uy j u = bl th1 lx1 ly1 ux1 uy1 j u := by
  induction u generalizing j with
  | zero => rw [bl, bl]
  | succ u ih =>
    obtain ⟨h1, h2, h3, h4, h5⟩ := h j (Nat.le_refl _) (by omega)
    rw [bl, bl, ih (j + 1) (fun i a b => h i (by omega) (by omega)), h1]
    unfold mb
    rw [h2, h3, h4, h5]
theorem bl_mem {b : Bx} (j u : Nat) (h : b ∈ bl th lx ly ux uy j u) : ∃ i : Nat, j ≤ i ∧ i < j + u ∧ b = mb lx ly ux uy i ∧ th i ≠ 0 := by
  induction u generalizing j with
  | zero => rw [bl] at h; cases h
  | succ u ih =>
    rw [bl] at h
    by_cases g : th j = 0
    · rw [if_pos g] at h
      obtain ⟨i, a1, a2, a3⟩ := ih (j + 1) h
      exact ⟨i, by omega, by omega, a3⟩
    · rw [if_neg g] at h
      rcases List.mem_cons.mp h with h | h
      · exact ⟨j, Nat.le_refl _, by omega, h, g⟩
      · obtain ⟨i, a1, a2, a3⟩ := ih (j + 1) h
        exact ⟨i, by omega, by omega, a3⟩
theorem bl_len (j u : Nat) : (bl th lx ly ux uy j u).length ≤ u := by
  induction u generalizing j with
  | zero => rw [bl]; exact Nat.le_refl _
  | succ u ih =>
    have := ih (j + 1)
    rw [bl]
    by_cases g : th j = 0
    · rw [if_pos g]; omega
    · rw [if_neg g, List.length_cons]; omega
theorem bl_cnt (u : Nat) : (bl th lx ly ux uy 0 u).length = cntT th u := by
  induction u with
  | zero => rw [bl, cntT]; rfl
  | succ u ih =>
    rw [bl_add 0 u 1, List.length_append, ih, cntT, Nat.zero_add, bl, bl]
    by_cases g : th u = 0
    · rw [if_pos g, if_pos g]; rfl
    · rw [if_neg g, if_neg g]; rfl
theorem bl_pw (j u : Nat) (hj : j + u ≤ 4096) : (bl th lx ly ux uy j u).Pairwise (fun a b => a.1 < b.1) := by
  induction u generalizing j with
  | zero => rw [bl]; exact List.Pairwise.nil
  | succ u ih =>
    rw [bl]
    by_cases g : th j = 0
    · rw [if_pos g]; exact ih (j + 1) (by omega)
    · rw [if_neg g]
      refine List.pairwise_cons.mpr ⟨fun b hb => ?_, ih (j + 1) (by omega)⟩
      obtain ⟨i, a1, a2, a3, -⟩ := bl_mem (j + 1) u hb
      rw [a3]
      exact nI_lt (by omega) (by omega)
theorem bl_srt : Srt (bl th lx ly ux uy 0 4096) := fun i j hi hj hij => List.pairwise_iff_getElem.mp (bl_pw 0 4096 (by omega)) i j hi hj hij
/-- before b, b, behind b -/
theorem bl_at {b : Nat} (hb : b < 4096) : bl th lx ly ux uy 0 4096 = bl th lx ly ux uy 0 b ++ ((if th b = 0 then [] else [mb lx ly ux uy b]) ++ bl th lx ly ux uy (b + 1) (4095 - b)) := by
  rw [show (4096 : Nat) = b + ((4095 - b) + 1) by omega, bl_add, Nat.zero_add]
  congr 1
  rw [bl]
  by_cases g : th b = 0
  · rw [if_pos g, if_pos g]; rfl
  · rw [if_neg g, if_neg g]; rfl
theorem lb_of {P T : List Bx} {n : Int32} (hP : ∀ a ∈ P, a.1 < n) (hT : ∀ a ∈ T, ¬ a.1 < n) : Lb (P ++ T) n P.length := by
  refine ⟨by rw [List.length_append]; omega, fun i h hi => ?_, fun i h hi => ?_⟩
  · rw [List.getElem_append_left hi]; exact hP _ (List.getElem_mem _)
  · rw [List.getElem_append_right hi]; exact hT _ (List.getElem_mem _)
theorem bl_lt {b : Nat} (hb : b < 4096) : ∀ a ∈ bl th lx ly ux uy 0 b, a.1 < nI b := fun a ha => by
  obtain ⟨i, a1, a2, a3, -⟩ := bl_mem 0 b ha
  rw [a3]
  exact nI_lt (by omega) (by omega)
theorem bl_gt {b : Nat} (hb : b < 4096) : ∀ a ∈ bl th lx ly ux uy (b + 1) (4095 - b), nI b < a.1 := fun a ha => by
  obtain ⟨i, a1, a2, a3, -⟩ := bl_mem (b + 1) _ ha
  rw [a3]
  exact nI_lt (by omega) (by omega)
theorem bl_Lb {b : Nat} (hb : b < 4096) : Lb (bl th lx ly ux uy 0 4096) (nI b) (bl th lx ly ux uy 0 b).length := by
  rw [bl_at hb]
  refine lb_of (bl_lt hb) (fun a ha => ?_)
  rcases List.mem_append.mp ha with h | h
  · by_cases g : th b = 0
    · rw [if_pos g] at h; cases h
    · rw [if_neg g] at h
      rw [List.mem_singleton.mp h]
      exact nI_nlt (Nat.le_refl _) (by omega)
  · exact fun q => absurd (i32_lt_trans (bl_gt hb a h) q) (nI_nlt (Nat.le_refl _) (by omega))
theorem bl_there {b : Nat} (hb : b < 4096) (h : th b ≠ 0) : (bl th lx ly ux uy 0 4096)[(bl th lx ly ux uy 0 b).length]? = some (mb lx ly ux uy b) := by
  rw [bl_at hb, if_neg h, List.getElem?_append_right (Nat.le_refl _), Nat.sub_self]
  rfl
theorem bl_not {b : Nat} (hb : b < 4096) (h : th b = 0) : ¬ ∃ q : (bl th lx ly ux uy 0 b).length < (bl th lx ly ux uy 0 4096).length, (bl th lx ly ux uy 0 4096)[(bl th lx ly ux uy 0 b).length].1 = nI b := by
  rintro ⟨q, h2⟩
  obtain ⟨a, ha⟩ : ∃ a, (bl th lx ly ux uy 0 4096)[(bl th lx ly ux uy 0 b).length]? = some a := ⟨_, List.getElem?_eq_getElem q⟩
  have h3 : a.1 = nI b := by rw [← h2, Option.some.inj (ha.symm.trans (List.getElem?_eq_getElem q))]
  rw [bl_at hb, if_pos h, List.nil_append, List.getElem?_append_right (Nat.le_refl _), Nat.sub_self] at ha
  have hm := List.mem_of_getElem? ha
  have := bl_gt hb a hm
  rw [h3] at this
  exact absurd this (nI_nlt (Nat.le_refl _) (by omega))
theorem bl_is {b : Nat} (hb : b < 4096) (h : th b ≠ 0) : ∃ q : (bl th lx ly ux uy 0 b).length < (bl th lx ly ux uy 0 4096).length, (bl th lx ly ux uy 0 4096)[(bl th lx ly ux uy 0 b).length].1 = nI b := by
  have h1 := bl_there (lx := lx) (ly := ly) (ux := ux) (uy := uy) hb h
  obtain ⟨q, h2⟩ := List.getElem?_eq_some_iff.mp h1
  exact ⟨q, by rw [h2]; rfl⟩
theorem upd_ne {f : Nat → Int32} {b i : Nat} {v : Int32} (h : i ≠ b) : upd f b v i = f i := by rw [upd, if_neg h]
theorem bl_put {b : Nat} (hb : b < 4096) (x1 y1 x2 y2 : Int32) : bl (upd th b 1) (upd lx b x1) (upd ly b y1) (upd ux b x2) (upd uy b y2) 0 4096 = bl th lx ly ux uy 0 b ++ (nI b, x1, y1, x2, y2) :: bl th lx ly ux uy (b + 1) (4095 - b) := by
  have e1 : ∀ (f : Nat → Int32) (v : Int32), upd f b v b = v := fun f v => by rw [upd, if_pos rfl]
  rw [bl_at hb, e1, if_neg (by decide)]
  have k5 : ∀ i : Nat, i ≠ b → upd th b 1 i = th i ∧ upd lx b x1 i = lx i ∧ upd ly b y1 i = ly i ∧ upd ux b x2 i = ux i ∧ upd uy b y2 i = uy i := fun i this => ⟨upd_ne this, upd_ne this, upd_ne this, upd_ne this, upd_ne this⟩
  rw [bl_congr (th1 := th) (lx1 := lx) (ly1 := ly) (ux1 := ux) (uy1 := uy) 0 b (fun i _ h => k5 i (by omega))]
  rw [bl_congr (th1 := th) (lx1 := lx) (ly1 := ly) (ux1 := ux) (uy1 := uy) (b + 1) (4095 - b) (fun i h _ => k5 i (by omega))]
  unfold mb
  rw [e1, e1, e1, e1]
  rfl
theorem bl_take {b : Nat} (hb : b < 4096) : bl (upd th b 0) lx ly ux uy 0 4096 = bl th lx ly ux uy 0 b ++ bl th lx ly ux uy (b + 1) (4095 - b) := by
  have e1 : upd th b 0 b = 0 := by rw [upd, if_pos rfl]
  rw [bl_at hb, e1, if_pos rfl, List.nil_append]
  rw [bl_congr (th1 := th) (lx1 := lx) (ly1 := ly) (ux1 := ux) (uy1 := uy) 0 b (fun i _ h => ⟨upd_ne (by omega), rfl, rfl, rfl, rfl⟩)]
  rw [bl_congr (th1 := th) (lx1 := lx) (ly1 := ly) (ux1 := ux) (uy1 := uy) (b + 1) (4095 - b) (fun i h _ => ⟨upd_ne (by omega), rfl, rfl, rfl, rfl⟩)]
theorem put_set {b : Nat} (hb : b < 4096) (h : th b ≠ 0) (x1 y1 x2 y2 : Int32) : (bl th lx ly ux uy 0 4096).set (bl th lx ly ux uy 0 b).length (nI b, x1, y1, x2, y2) = bl (upd th b 1) (upd lx b x1) (upd ly b y1) (upd ux b x2) (upd uy b y2) 0 4096 := by
  rw [bl_put hb, bl_at hb, if_neg h, List.set_append_right _ _ (Nat.le_refl _), Nat.sub_self]
  rfl
theorem put_ins {b : Nat} (hb : b < 4096) (h : th b = 0) (x1 y1 x2 y2 : Int32) : ins (bl th lx ly ux uy 0 4096) (bl th lx ly ux uy 0 b).length (nI b, x1, y1, x2, y2) = bl (upd th b 1) (upd lx b x1) (upd ly b y1) (upd ux b x2) (upd uy b y2) 0 4096 := by
  rw [bl_put hb, bl_at hb, if_pos h, List.nil_append, ins, List.take_left, List.drop_left]
theorem take_era {b : Nat} (hb : b < 4096) (h : th b ≠ 0) : (bl th lx ly ux uy 0 4096).eraseIdx (bl th lx ly ux uy 0 b).length = bl (upd th b 0) lx ly ux uy 0 4096 := by
  rw [bl_take hb, bl_at hb, if_neg h, List.eraseIdx_append_of_length_le (Nat.le_refl _), Nat.sub_self]
  rfl
theorem take_no {b : Nat} (hb : b < 4096) (h : th b = 0) : bl th lx ly ux uy 0 4096 = bl (upd th b 0) lx ly ux uy 0 4096 := by
  rw [bl_take hb, bl_at hb, if_pos h, List.nil_append]
theorem bl_zero (j u : Nat) (h : ∀ i : Nat, j ≤ i → i < j + u → th i = 0) : bl th lx ly ux uy j u = [] := by
  induction u generalizing j with
  | zero => rw [bl]
  | succ u ih => rw [bl, if_pos (h j (Nat.le_refl _) (by omega)), ih (j + 1) (fun i a b => h i (by omega) (by omega))]
end BL
theorem boF_some (z v : Int32) (bs : List Bx) : boF z (some v) bs = some (bdsF z v bs) := by
  induction bs generalizing v with
  | nil => rfl
  | cons b t ih => exact ih (mmx z v (bnd b z))
theorem boF_cons (z : Int32) (b : Bx) (t : List Bx) : boF z none (b :: t) = some (bdsF z (bnd b z) t) := boF_some z _ t
theorem boF_nil (z : Int32) : boF z none [] = none := rfl
