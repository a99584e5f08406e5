/-! put, take, clear -/
def ins (bs : List Bx) (k : Nat) (b : Bx) : List Bx := bs.take k ++ b :: bs.drop k
theorem ins_len {bs : List Bx} {k : Nat} {b : Bx} (hk : k ≤ bs.length) : (ins bs k b).length = bs.length + 1 := by
  simp only [ins, List.length_append, List.length_take, List.length_cons, List.length_drop]; omega
theorem ins_at {bs : List Bx} {k : Nat} {b : Bx} (hk : k ≤ bs.length) (i : Nat) : (ins bs k b)[i]? = if i < k then bs[i]? else if i = k then some b else bs[i - 1]? := by
  unfold ins
  by_cases h1 : i < k
  · rw [if_pos h1, List.getElem?_append_left (by rw [List.length_take]; omega), List.getElem?_take, if_pos h1]
  · rw [if_neg h1, List.getElem?_append_right (by rw [List.length_take]; omega), List.length_take, Nat.min_eq_left hk]
    by_cases h2 : i = k
    · subst h2
      rw [if_pos rfl, Nat.sub_self]; rfl
    · rw [if_neg h2, show i - k = (i - 1 - k) + 1 by omega, List.getElem?_cons_succ, List.getElem?_drop, show k + (i - 1 - k) = i - 1 by omega]
theorem ls_of {bs : List Bx} {f : Nat → Option Nat} {w : World} (h : ∀ (i : Nat) (b : Bx), bs[i]? = some b → ∃ x : Nat, f i = some x ∧ w x = some (.inr (1, bxf b))) (i : Nat) (hi : i < bs.length) : ∃ x : Nat, f i = some x ∧ w x = some (.inr (1, bxf bs[i])) := h i _ (List.getElem?_eq_getElem hi)
theorem LsAt.g {G : Gl} {w : World} {L E N : Nat} {f : Nat → Option Nat} {md : Int32} {bs : List Bx} (h : LsAt G w L E N f md bs) {i : Nat} {b : Bx} (hb : bs[i]? = some b) : ∃ x : Nat, f i = some x ∧ w x = some (.inr (1, bxf b)) := by
  obtain ⟨hi, rfl⟩ := List.getElem?_eq_some_iff.mp hb
  exact h.2.2.2.2 i hi
theorem LsAt.nE {G : Gl} {w : World} {L E N : Nat} {f : Nat → Option Nat} {md : Int32} {bs : List Bx} (h : LsAt G w L E N f md bs) (h0 : w (ge0 G) = none) {a : Nat} {e : Nat × List Value} (ha : w a = some (.inr e)) : a ≠ E := by
  rcases h.2.2.2.1 with ⟨rfl, -⟩ | h1
  · exact wnf ha h0
  · exact wne ha h1 (by simp)
theorem LsAt.q {G : Gl} {w : World} {L E N : Nat} {f : Nat → Option Nat} {md : Int32} {bs : List Bx} (h : LsAt G w L E N f md bs) : ∀ j : Nat, j < bs.length → ∃ (y : Nat) (vs : List Value), f j = some y ∧ w y = some (.inr (1, vs)) := fun j hj => by
  obtain ⟨x, h1, h2⟩ := h.2.2.2.2 j hj
  exact ⟨x, _, h1, h2⟩
theorem LsAt.mono {G : Gl} {w w1 : World} {L E N : Nat} {f : Nat → Option Nat} {md : Int32} {bs : List Bx} (h : LsAt G w L E N f md bs) (hK : Kp w w1 []) : LsAt G w1 L E N f md bs := by
  obtain ⟨h1, h2, h3, h4, h5⟩ := h
  refine ⟨hK _ _ h1 (by simp), h2, h3, h4.imp id (fun h => hK _ _ h (by simp)), fun i hi => ?_⟩
  obtain ⟨x, a, b⟩ := h5 i hi
  exact ⟨x, a, hK _ _ b (by simp)⟩
theorem DAt.mono {G : Gl} {w w1 : World} {x L E F Gd cF : Nat} {bs : List Bx} {rs : List Int32} (h : DAt G w x L E F Gd bs rs cF) (hK : Kp w w1 []) : DAt G w1 x L E F Gd bs rs cF := by
  obtain ⟨hB, ⟨N, f, md, hLs, hN0⟩, ⟨g, hF, hg⟩, ⟨cG, d, hGd, hcG⟩, hc⟩ := h
  exact ⟨hK _ _ hB (by simp), ⟨N, f, md, hLs.mono hK, hN0⟩, ⟨g, hK _ _ hF (by simp), hg⟩, ⟨cG, d, hK _ _ hGd (by simp), hcG⟩, hc⟩
theorem LsAt.nA {G : Gl} {w : World} {L E N : Nat} {f : Nat → Option Nat} {md : Int32} {bs : List Bx} (h : LsAt G w L E N f md bs) (h0 : w (ge0 G) = none) {a n : Nat} {c : ClassId} {g : vp_A} (ha : w a = some (.inl (c, g))) (hg : ∀ (n : Nat) (f : Nat → Option Nat), g ≠ (n, .inr (.inr (.inr (.inr f))))) : a ≠ E := by
  rcases h.2.2.2.1 with ⟨rfl, -⟩ | h1
  · exact wnf ha h0
  · exact wne ha h1 (fun q => hg _ _ (congrArg (fun z => match z with | .inl y => y.2 | .inr _ => g) q))
theorem DAt.list {G : Gl} {w w1 : World} {x L E E1 F Gd cF N1 : Nat} {f1 : Nat → Option Nat} {md1 : Int32} {bs bs1 : List Bx} {rs : List Int32} (h : DAt G w x L E F Gd bs rs cF) (hK : Kp w w1 [L, E]) (h0 : w (ge0 G) = none) (h1 : LsAt G w1 L E1 N1 f1 md1 bs1) (h2 : (E1 = ge0 G ∧ N1 = 0) ∨ 0 < N1) : DAt G w1 x L E1 F Gd bs1 rs cF := by
  obtain ⟨hB, ⟨N, f, md, hLs, hN0⟩, ⟨g, hF, hg⟩, ⟨cG, d, hGd, hcG⟩, hc⟩ := h
  have k1 : ∀ (a b c : Nat), a ≠ b → a ≠ c → a ∉ [b, c] := fun a b c h1 h2 h => by
    rcases List.mem_cons.mp h with h | h
    · exact h1 h
    · exact h2 (List.mem_singleton.mp h)
  exact ⟨hK _ _ hB (k1 _ _ _ (wne hB hLs.1 (by simp)) (hLs.nE h0 hB)), ⟨N1, f1, md1, h1, h2⟩, ⟨g, hK _ _ hF (k1 _ _ _ (wne hF hLs.1 (by simp)) (hLs.nA (n := 0) h0 hF (fun _ _ => by simp))), hg⟩, ⟨cG, d, hK _ _ hGd (k1 _ _ _ (wne hGd hLs.1 (by simp)) (hLs.nA (n := 0) h0 hGd (fun _ _ => by simp))), hcG⟩, hc⟩
/-- the drawer behind a call -/
def DQ (G : Gl) (w w1 : World) (x L E F Gd : Nat) (bs : List Bx) (rs : List Int32) (P : Nat → Prop) : Prop :=
  ∃ E1 F1 G1 cF1 : Nat, (E1 = E ∨ w E1 = none) ∧ (F1 = F ∨ w F1 = none) ∧ (G1 = Gd ∨ w G1 = none) ∧ DAt G w1 x L E1 F1 G1 bs rs cF1 ∧ Kp w w1 [x, L, E, F, Gd] ∧ P cF1
theorem add_ls {G : Gl} {w w1 : World} {L E N N1 b k : Nat} {f : Nat → Option Nat} {md : Int32} {bs : List Bx} {bx : Bx} (h : LsAt G w L E N f md bs) (h0 : w (ge0 G) = none) (hA : AddQ G w w1 L E k bs.length b N1 f) (hb : w b = some (.inr (1, bxf bx))) (hk : k ≤ bs.length) (h1 : bs.length + 1 ≤ N1) (h2 : N1 ≤ 100000) :
    ∃ (E1 : Nat) (f1 : Nat → Option Nat) (md1 : Int32), (E1 = E ∨ w E1 = none) ∧ LsAt G w1 L E1 N1 f1 md1 (ins bs k bx) ∧ Kp w w1 [L, E] := by
  obtain ⟨E1, f1, md1, a1, a2, a3, a4, a5, a6, a7⟩ := hA
  have kp : ∀ {a : Nat} {vs : List Value}, w a = some (.inr (1, vs)) → w1 a = some (.inr (1, vs)) := fun {a vs} ha => a7 _ _ ha (fun hm => by
    rcases List.mem_cons.mp hm with q | q
    · exact wne ha h.1 (by simp) q
    · exact h.nE h0 ha (List.mem_singleton.mp q))
  refine ⟨E1, f1, md1, a6, ⟨?_, ?_, h2, Or.inr a2, ls_of (fun i c hc => ?_)⟩, a7⟩
  · rw [ins_len hk]; exact a1
  · rw [ins_len hk]; exact h1
  · rw [ins_at hk] at hc
    by_cases g1 : i < k
    · rw [if_pos g1] at hc
      obtain ⟨x, b1, b2⟩ := h.g hc
      exact ⟨x, by rw [a3 i g1]; exact b1, kp b2⟩
    · rw [if_neg g1] at hc
      by_cases g2 : i = k
      · subst g2
        rw [if_pos rfl] at hc
        cases hc
        exact ⟨b, a4, kp hb⟩
      · rw [if_neg g2] at hc
        obtain ⟨x, b1, b2⟩ := h.g hc
        have hl : i - 1 < bs.length := (List.getElem?_eq_some_iff.mp hc).1
        exact ⟨x, by rw [show i = i - 1 + 1 by omega, a5 (i - 1) (by omega) hl]; exact b1, kp b2⟩
theorem set_ls {G : Gl} {w w1 : World} {L E N b k : Nat} {f : Nat → Option Nat} {md : Int32} {bs : List Bx} {bx : Bx} (h : LsAt G w L E N f md bs) (h0 : w (ge0 G) = none) (hA : w1 = va_up w E (some (.inl (G.2.1.2.2.2, N, .inr (.inr (.inr (.inr (va_up f k (some b))))))))) (hb : w b = some (.inr (1, bxf bx))) (hk : k < bs.length) :
    LsAt G w1 L E N (va_up f k (some b)) md (bs.set k bx) ∧ Kp w w1 [L, E] := by
  have a7 : Kp w w1 [L, E] := by rw [hA]; exact Kp.up (Or.inl (by simp))
  have kp : ∀ {a : Nat} {vs : List Value}, w a = some (.inr (1, vs)) → w1 a = some (.inr (1, vs)) := fun {a vs} ha => a7 _ _ ha (fun hm => by
    rcases List.mem_cons.mp hm with q | q
    · exact wne ha h.1 (by simp) q
    · exact h.nE h0 ha (List.mem_singleton.mp q))
  refine ⟨⟨?_, by rw [List.length_set]; exact h.2.1, h.2.2.1, Or.inr (by rw [hA]; exact va_up_self _ _ _), ls_of (fun i c hc => ?_)⟩, a7⟩
  · rw [hA, va_up_ne _ _ (h.nE h0 h.1), List.length_set]; exact h.1
  · by_cases g : k = i
    · subst g
      rw [List.getElem?_set_self hk] at hc
      cases hc
      exact ⟨b, va_up_self _ _ _, kp hb⟩
    · rw [List.getElem?_set_ne g] at hc
      obtain ⟨x, b1, b2⟩ := h.g hc
      exact ⟨x, by rw [va_up_ne _ _ (fun q => g q.symm)]; exact b1, kp b2⟩
theorem rem_ls {G : Gl} {w w1 : World} {L E N k : Nat} {f : Nat → Option Nat} {md : Int32} {bs : List Bx} (h : LsAt G w L E N f md bs) (h0 : w (ge0 G) = none) (hA : RemQ G w w1 L E k bs.length N f) (hk : k < bs.length) :
    ∃ (f1 : Nat → Option Nat) (md1 : Int32), LsAt G w1 L E N f1 md1 (bs.eraseIdx k) ∧ Kp w w1 [L, E] := by
  obtain ⟨f1, md1, a1, a2, a3, a4, a7⟩ := hA
  have kp : ∀ {a : Nat} {vs : List Value}, w a = some (.inr (1, vs)) → w1 a = some (.inr (1, vs)) := fun {a vs} ha => a7 _ _ ha (fun hm => by
    rcases List.mem_cons.mp hm with q | q
    · exact wne ha h.1 (by simp) q
    · exact h.nE h0 ha (List.mem_singleton.mp q))
  have hl : (bs.eraseIdx k).length = bs.length - 1 := List.length_eraseIdx_of_lt hk
  refine ⟨f1, md1, ⟨by rw [hl]; exact a1, by rw [hl]; exact Nat.le_trans (Nat.sub_le _ _) h.2.1, h.2.2.1, Or.inr a2, ls_of (fun i c hc => ?_)⟩, a7⟩
  have hi : i < bs.length - 1 := by rw [← hl]; exact (List.getElem?_eq_some_iff.mp hc).1
  rw [List.getElem?_eraseIdx] at hc
  by_cases g : i < k
  · rw [if_pos g] at hc
    obtain ⟨x, b1, b2⟩ := h.g hc
    exact ⟨x, by rw [a3 i g]; exact b1, kp b2⟩
  · rw [if_neg g] at hc
    obtain ⟨x, b1, b2⟩ := h.g hc
    exact ⟨x, by rw [a4 i (by omega) hi]; exact b1, kp b2⟩
theorem clr_ls {G : Gl} {w w1 : World} {L E N : Nat} {f : Nat → Option Nat} {md : Int32} {bs : List Bx} (h : LsAt G w L E N f md bs) (hA : ClrQ G w w1 L E N f) : ∃ (f1 : Nat → Option Nat) (md1 : Int32), LsAt G w1 L E N f1 md1 [] ∧ Kp w w1 [L, E] := by
  obtain ⟨f1, md1, a1, a2, a7⟩ := hA
  exact ⟨f1, md1, ⟨a1, Nat.zero_le _, h.2.2.1, a2, fun i hi => absurd hi (Nat.not_lt_zero _)⟩, a7⟩
theorem DQ.of_list {G : Gl} {w w1 w2 : World} {x L E E1 F Gd cF N1 : Nat} {f1 : Nat → Option Nat} {md1 : Int32} {bs bs1 : List Bx} {rs : List Int32} (hD : DAt G w1 x L E F Gd bs rs cF) (hK0 : Kp w w1 []) (hE : E1 = E ∨ w1 E1 = none) (hK : Kp w1 w2 [L, E]) (h0 : w1 (ge0 G) = none) (h1 : LsAt G w2 L E1 N1 f1 md1 bs1) (h2 : (E1 = ge0 G ∧ N1 = 0) ∨ 0 < N1) : DQ G w w2 x L E F Gd bs1 rs (fun c => c = cF) := by
  refine ⟨E1, F, Gd, cF, hE.imp id (fun h => ?_), Or.inl rfl, Or.inl rfl, hD.list hK h0 h1 h2, ?_, rfl⟩
  · cases q : w E1 with
    | none => rfl
    | some e => rw [hK0 _ _ q (by simp)] at h; cases h
  · exact (hK0.mono (fun b hb => by cases hb)).trans hK (fun b hb => Or.inl (by
      rcases List.mem_cons.mp hb with q | q
      · simp [q]
      · simp [List.mem_singleton.mp q]))
section GE0
variable {p : Program} {s : State} {m : MethodId} {args : Array Value} {meth : Method} {c : Code} {H : Heap} {G : Gl} {cc : ByteArray} {nL : Nat} {own : String} {w : World}
theorem ge0_none (C0 : Cx G p s m args c cc nL own meth) (hH : Hw G w H) : w (ge0 G) = none := by
  obtain ⟨cell, h1, h2, h3, h4, h5, h6, h7⟩ := C0.ev.2.2.1
  cases h : w (ge0 G) with
  | none => rfl
  | some e => exact absurd (hH.inA h) h7
end GE0

set_option maxHeartbeats 4000000 in
set_option maxRecDepth 100000 in
theorem k_B_put (l : Launch) (G : Gl) (w : World) {x L E F Gd cF : Nat} {bs : List Bx} {rs : List Int32} (hD : DAt G w x L E F Gd bs rs cF) (n lx ly hx1 hy1 : Int32) (k : Nat) (hn9 : okN n) (hb9 : okB lx ly hx1 hy1) (hs : Srt bs) (hk : Lb bs n k) (hln : bs.length ≤ 4096) :
    GnI l y_B_put ws_B_put 6 2 6200 G w [.ref x, .int n, .int lx, .int ly, .int hx1, .int hy1] (fun r w1 => (r = 1 ∧ (∃ h : k < bs.length, bs[k].1 = n) ∧ DQ G w w1 x L E F Gd (bs.set k (n, lx, ly, hx1, hy1)) rs (fun c => c = cF)) ∨ (r = 0 ∧ ¬ (∃ h : k < bs.length, bs[k].1 = n) ∧ DQ G w w1 x L E F Gd (ins bs k (n, lx, ly, hx1, hy1)) rs (fun c => c = cF))) := by
  refine met_ent (by decide +kernel) (Nat.le_of_ble_eq_true rfl) (fun p e s m below meth c ls C0 hr hin hH hl => ?_)
  have hx := C0.1
  have hb := C0.2.1
  have hS : va_S (gA G) s.heap s.heap [] := va_S.rf
  have hA : ∀ q : Nat, s.heap.size ≤ q → gA G q := fun q h => Nat.le_trans C0.ev.2.2.2.2.2.2.2.2.2.2.2.2 h
  have hl : lv_has ls 8 [(0, .ref x), (1, .int n), (2, .int lx), (3, .int ly), (4, .int hx1), (5, .int hy1)] := hl
  obtain ⟨hB, ⟨N, f, md, hLs, hN0⟩, ⟨g, hF, hg⟩, ⟨cG, d, hGd, hcG⟩, hc1, hc2, hc3⟩ := id hD
  obtain ⟨hL1, hL2, hL3, hL4, hL5⟩ := id hLs
  refine lv_iload_n hx hb d_B_put_0 rfl (lv_at hl 1 rfl) ?_
  refine pu_n (runS C0 (k_B_requireNumber l G w n hn9) (cs_B_28 C0 ⟨Nat.le_of_ble_eq_true rfl, Nat.le_of_ble_eq_true rfl⟩) hH hS rfl hl.1 rfl (lv_room (Nat.le_of_ble_eq_true rfl)) d_B_put_1 ⟨by show _ ≤ 2; omega, by show _ ≤ 6200; omega⟩) ?_
  refine lv_iload_n hx hb d_B_put_4 rfl (lv_at hl 2 rfl) ?_
  refine lv_iload_n hx hb d_B_put_5 rfl (lv_at hl 3 rfl) ?_
  refine lv_iload hx hb d_B_put_6 (lv_at hl 4 rfl) ?_
  refine lv_iload hx hb d_B_put_8 (lv_at hl 5 rfl) ?_
  refine pu_n (runS C0 (k_B_requireBounds l G w lx ly hx1 hy1 hb9) (cs_B_32 C0 ⟨Nat.le_of_ble_eq_true rfl, Nat.le_of_ble_eq_true rfl⟩) hH hS rfl hl.1 rfl (lv_room (Nat.le_of_ble_eq_true rfl)) d_B_put_10 ⟨by show _ ≤ 2; omega, by show _ ≤ 6200; omega⟩) ?_
  refine hd_new (ci := 1) (fs := [.int 0, .int 0, .int 0, .int 0, .int 0]) hx hb C0.2.2.2.2.1 in_X tyX tyX_ok C0.2.2.2.1 (C0.2.2.2.2.1 _ mw_104) (C0.2.2.2.2.1 _ mw_108) (C0.2.2.2.2.1 _ mw_11) C0.hK hH hS hA rfl (fun j hj => by rcases (show j = 0 ∨ j = 1 ∨ j = 2 ∨ j = 3 ∨ j = 4 by omega) with rfl | rfl | rfl | rfl | rfl <;> rfl) (by show _ ≤ 2; omega) (by show _ ≤ 6200; omega) d_B_put_13 (fun q13 H hnq13 hH hS => ?_)
  obtain ⟨w1, ew1⟩ : ∃ z : World, z = va_up w q13 (some (.inr (1, [.int 0, .int 0, .int 0, .int 0, .int 0]))) := ⟨_, rfl⟩
  have hH : Hw G w1 H := by rw [ew1]; exact hH
  have hw1_x : w1 x = some (.inr (2, [.ref L, .ref F, .int (nI rs.length), .ref Gd])) := by rw [ew1, va_up_ne _ _ (wnf hB hnq13)]; exact hB
  have hw1_q13 : w1 q13 = some (.inr (1, [.int 0, .int 0, .int 0, .int 0, .int 0])) := by rw [ew1]; exact va_up_self _ _ _
  refine lv_dup hx hb d_B_put_16 rfl ?_
  refine lv_iload_n hx hb d_B_put_17 rfl (lv_at hl 1 rfl) ?_
  refine lv_iload_n hx hb d_B_put_18 rfl (lv_at hl 2 rfl) ?_
  refine lv_iload_n hx hb d_B_put_19 rfl (lv_at hl 3 rfl) ?_
  refine lv_iload hx hb d_B_put_20 (lv_at hl 4 rfl) ?_
  refine lv_iload hx hb d_B_put_22 (lv_at hl 5 rfl) ?_
  refine gn_v (runIN C0 (k_X_init l G w1 n lx ly hx1 hy1 hw1_q13) (cs_B_38 C0 ⟨Nat.le_of_ble_eq_true rfl, Nat.le_of_ble_eq_true rfl⟩) hH hS rfl hl.1 rfl (lv_room (Nat.le_of_ble_eq_true rfl)) d_B_put_24 ⟨by show _ ≤ 2; omega, by show _ ≤ 6200; omega⟩) hS (fun w2 H locs hp2 hH hS => ?_)
  have ew2 := hp2
  have hw2_q13 : w2 q13 = some (.inr (1, bxf (n, lx, ly, hx1, hy1))) := by rw [ew2]; exact va_up_self _ _ _
  have hK2 : Kp w w2 [] := by rw [ew2, ew1]; exact (Kp.up (Or.inr hnq13)).ups (Or.inr hnq13)
  have hD2 := hD.mono hK2
  obtain ⟨hB2, ⟨N2, f2, md2, hLs2, hN2⟩, ⟨g2, hF2, hg2⟩, ⟨cG2, d2, hGd2, hcG2⟩, hc12, hc22, hc32⟩ := id hD2
  obtain ⟨hL12, hL22, hL32, hL42, hL52⟩ := id hLs2
  have h02 := ge0_none C0 hH
  refine lv_astore (lv' := [(6, .ref q13), (0, .ref x), (1, .int n), (2, .int lx), (3, .int ly), (4, .int hx1), (5, .int hy1)]) hx hb d_B_put_27 hl (by decide) rfl (fun ls hl => ?_)
  refine lv_aload_n hx hb d_B_put_29 rfl (lv_at hl 1 rfl) ?_
  refine lv_iload_n hx hb d_B_put_30 rfl (lv_at hl 2 rfl) ?_
  refine pu_v (runV C0 (k_B_indexFor l G w2 n k hB2 hLs2 hs hk) (cs_B_41 C0 ⟨Nat.le_of_ble_eq_true rfl, Nat.le_of_ble_eq_true rfl⟩) hH hS (hd_recv C0.hK hH rfl hB2) rfl hl.1 rfl (lv_room (Nat.le_of_ble_eq_true rfl)) d_B_put_31 ⟨by show _ ≤ 2; omega, by show _ ≤ 6200; omega⟩) ?_
  refine lv_istore (lv' := [(7, .int (nI k)), (6, .ref q13), (0, .ref x), (1, .int n), (2, .int lx), (3, .int ly), (4, .int hx1), (5, .int hy1)]) hx hb d_B_put_34 hl (by decide) rfl (fun ls hl => ?_)
  refine lv_aload_n hx hb d_B_put_36 rfl (lv_at hl 2 rfl) ?_
  refine lv_iload hx hb d_B_put_37 (lv_at hl 0 rfl) ?_
  refine lv_iload_n hx hb d_B_put_39 rfl (lv_at hl 3 rfl) ?_
  refine pu_v (runV C0 (k_B_isAt l G w2 k n hk.1 hB2 hLs2) (cs_B_45 C0 ⟨Nat.le_of_ble_eq_true rfl, Nat.le_of_ble_eq_true rfl⟩) hH hS (hd_recv C0.hK hH rfl hB2) rfl hl.1 rfl (lv_room (Nat.le_of_ble_eq_true rfl)) d_B_put_40 ⟨by show _ ≤ 2; omega, by show _ ≤ 6200; omega⟩) ?_
  refine lv_if_eq (tgt := 60) hx hb d_B_put_43 (by decide) (fun c_43 => ?_) (fun c_43 => ?_)
  · have hth : ¬ (∃ h : k < bs.length, bs[k].1 = n) := fun h => absurd ((b01_t h).symm.trans c_43) (by decide)
    refine lv_aload_n hx hb d_B_put_60 rfl (lv_at hl 2 rfl) ?_
    refine gf_B_10 C0 hH hB2 rfl d_B_put_61 ?_
    refine lv_iload hx hb d_B_put_64 (lv_at hl 0 rfl) ?_
    refine lv_aload hx hb d_B_put_66 (lv_at hl 1 rfl) ?_
    rcases hN2 with ⟨hE0, hN00⟩ | hN00
    · have hk0 : k = 0 := by have := hk.1; omega
      have hlen0 : bs.length = 0 := by omega
      have hL0 : w2 L = some (.inr (0, [.int md2, .ref (ge0 G), .int (nI 0)])) := by rw [hL12, hE0, hlen0]
      rw [show nI k = nI 0 from by rw [hk0]]
      refine gn_v (runV C0 (k_A_add2 l G w2 hL0 hw2_q13) (cs_B_53 C0 ⟨Nat.le_of_ble_eq_true rfl, Nat.le_of_ble_eq_true rfl⟩) hH hS (hd_recv C0.hK hH rfl hL12) rfl hl.1 rfl (lv_room (Nat.le_of_ble_eq_true rfl)) d_B_put_68 ⟨by show _ ≤ 2; omega, by show _ ≤ 6200; omega⟩) hS (fun w3 H locs hp3 hH hS => ?_)
      have ha9 : AddQ G w2 w3 L E k bs.length q13 10 f2 := by rw [hk0, hlen0, hE0]; exact hp3 f2
      obtain ⟨E1, f9, md9, hE9, hls9, hkp9⟩ := add_ls (bx := (n, lx, ly, hx1, hy1)) hLs2 h02 ha9 hw2_q13 hk.1 (by omega) (by omega)
      refine lv_iconst (v := 0) hx hb d_B_put_71 (by decide) ?_
      refine W.widen (k := 2) (n := 6200) (by omega) (by omega) ?_
      exact W.zret hx hb hr rfl (fun t ht hW => ⟨⟨0, w3, rfl, Or.inr ⟨rfl, hth, DQ.of_list hD2 hK2 hE9 hkp9 h02 hls9 (Or.inr (by omega))⟩, Wo.at C0.ev hH hS ht hW⟩, hS.F ht⟩) hS.2.2 d_B_put_72 (hlocks := C0.2.2.2.2.2.2)
    · have hE2 : w2 E = some (.inl (G.2.1.2.2.2, N2, .inr (.inr (.inr (.inr f2))))) := hL42.elim (fun h => absurd h.2 (by omega)) id
      by_cases hroom : bs.length < N2
      · refine gn_v (runV C0 (k_A_add0 l G w2 hL12 hE2 hL22 hL32 hw2_q13 hLs2.q hk.1 hroom) (cs_B_53 C0 ⟨Nat.le_of_ble_eq_true rfl, Nat.le_of_ble_eq_true rfl⟩) hH hS (hd_recv C0.hK hH rfl hL12) rfl hl.1 rfl (lv_room (Nat.le_of_ble_eq_true rfl)) d_B_put_68 ⟨by show _ ≤ 2; omega, by show _ ≤ 6200; omega⟩) hS (fun w4 H locs hp4 hH hS => ?_)
        obtain ⟨E1, f9, md9, hE9, hls9, hkp9⟩ := add_ls (bx := (n, lx, ly, hx1, hy1)) hLs2 h02 hp4 hw2_q13 hk.1 (by omega) (by omega)
        refine lv_iconst (v := 0) hx hb d_B_put_71 (by decide) ?_
        refine W.widen (k := 2) (n := 6200) (by omega) (by omega) ?_
        exact W.zret hx hb hr rfl (fun t ht hW => ⟨⟨0, w4, rfl, Or.inr ⟨rfl, hth, DQ.of_list hD2 hK2 hE9 hkp9 h02 hls9 (Or.inr (by omega))⟩, Wo.at C0.ev hH hS ht hW⟩, hS.F ht⟩) hS.2.2 d_B_put_72 (hlocks := C0.2.2.2.2.2.2)
      · have hNe : N2 = bs.length := by omega
        refine gn_v (runV C0 (k_A_add1 l G w2 hL12 (by rw [← hNe]; exact hE2) (by omega) (by omega) hw2_q13 hLs2.q hk.1) (cs_B_53 C0 ⟨Nat.le_of_ble_eq_true rfl, Nat.le_of_ble_eq_true rfl⟩) hH hS (hd_recv C0.hK hH rfl hL12) rfl hl.1 rfl (lv_room (Nat.le_of_ble_eq_true rfl)) d_B_put_68 ⟨by show _ ≤ 2; omega, by show _ ≤ 6200; omega⟩) hS (fun w5 H locs hp5 hH hS => ?_)
        obtain ⟨E1, f9, md9, hE9, hls9, hkp9⟩ := add_ls (bx := (n, lx, ly, hx1, hy1)) hLs2 h02 hp5 hw2_q13 hk.1 (by omega) (by omega)
        refine lv_iconst (v := 0) hx hb d_B_put_71 (by decide) ?_
        refine W.widen (k := 2) (n := 6200) (by omega) (by omega) ?_
        exact W.zret hx hb hr rfl (fun t ht hW => ⟨⟨0, w5, rfl, Or.inr ⟨rfl, hth, DQ.of_list hD2 hK2 hE9 hkp9 h02 hls9 (Or.inr (by omega))⟩, Wo.at C0.ev hH hS ht hW⟩, hS.F ht⟩) hS.2.2 d_B_put_72 (hlocks := C0.2.2.2.2.2.2)
  · have hth : (∃ h : k < bs.length, bs[k].1 = n) := Classical.byContradiction (fun h => c_43 (b01_f h))
    obtain ⟨hk1, -⟩ := id hth
    obtain ⟨xk, hxk, hxw⟩ := hL52 k hk1
    refine lv_aload_n hx hb d_B_put_46 rfl (lv_at hl 2 rfl) ?_
    refine gf_B_10 C0 hH hB2 rfl d_B_put_47 ?_
    refine lv_iload hx hb d_B_put_50 (lv_at hl 0 rfl) ?_
    refine lv_aload hx hb d_B_put_52 (lv_at hl 1 rfl) ?_
    refine gn_q (runV C0 (k_A_set l G w2 hL12 (hLs2.arr (by omega)) hL22 hL32 hw2_q13 hk1 hxk) (cs_B_49 C0 ⟨Nat.le_of_ble_eq_true rfl, Nat.le_of_ble_eq_true rfl⟩) hH hS (hd_recv C0.hK hH rfl hL12) rfl hl.1 rfl (lv_room (Nat.le_of_ble_eq_true rfl)) d_B_put_54 ⟨by show _ ≤ 2; omega, by show _ ≤ 6200; omega⟩) hS (fun r6 w6 H locs hp6 hH hS => ?_)
    obtain ⟨rfl, ew6⟩ := hp6
    obtain ⟨hls9, hkp9⟩ := set_ls (bx := (n, lx, ly, hx1, hy1)) hLs2 h02 ew6 hw2_q13 hk1
    refine lv_pop hx hb d_B_put_57 rfl ?_
    refine lv_iconst (v := 1) hx hb d_B_put_58 (by decide) ?_
    refine W.widen (k := 2) (n := 6200) (by omega) (by omega) ?_
    exact W.zret hx hb hr rfl (fun t ht hW => ⟨⟨1, w6, rfl, Or.inl ⟨rfl, hth, DQ.of_list hD2 hK2 (Or.inl rfl) hkp9 h02 hls9 hN2⟩, Wo.at C0.ev hH hS ht hW⟩, hS.F ht⟩) hS.2.2 d_B_put_59 (hlocks := C0.2.2.2.2.2.2)

set_option maxHeartbeats 4000000 in
set_option maxRecDepth 100000 in
theorem t_B_put0 (l : Launch) (hlt : l.stackTraces = false) (G : Gl) (w : World) {x : Nat} (n lx ly hx1 hy1 : Int32) (h : ¬ okN n) :
    ThM l y_B_put ws_B_put 8 G w [.ref x, .int n, .int lx, .int ly, .int hx1, .int hy1] "java/lang/IndexOutOfBoundsException" := by
  refine th_ent (by decide +kernel) (Nat.le_of_ble_eq_true rfl) (fun p e s m below meth c ls C0 ht hH hl => ?_)
  have hx := C0.1
  have hb := C0.2.1
  have hS : va_S (gA G) s.heap s.heap [] := va_S.rf
  have hl : lv_has ls 8 [(0, .ref x), (1, .int n), (2, .int lx), (3, .int ly), (4, .int hx1), (5, .int hy1)] := hl
  refine lv_iload_n hx hb d_B_put_0 rfl (lv_at hl 1 rfl) ?_
  exact th_out ht C0.2.2.2.2.2.2 (xrunS C0 (t_B_requireNumber l hlt G w n h) (cs_B_28 C0 ⟨by decide, by decide⟩) hH hS rfl hl.1 rfl (lv_room (Nat.le_of_ble_eq_true rfl)) d_B_put_1 ⟨Nat.le_refl _, Nat.le_refl _⟩)

set_option maxHeartbeats 4000000 in
set_option maxRecDepth 100000 in
theorem t_B_put1 (l : Launch) (hlt : l.stackTraces = false) (G : Gl) (w : World) {x : Nat} (n lx ly hx1 hy1 : Int32) (hn9 : okN n) (h : ¬ okB lx ly hx1 hy1) :
    ThM l y_B_put ws_B_put 8 G w [.ref x, .int n, .int lx, .int ly, .int hx1, .int hy1] "java/lang/IllegalArgumentException" := by
  refine th_ent (by decide +kernel) (Nat.le_of_ble_eq_true rfl) (fun p e s m below meth c ls C0 ht hH hl => ?_)
  have hx := C0.1
  have hb := C0.2.1
  have hS : va_S (gA G) s.heap s.heap [] := va_S.rf
  have hl : lv_has ls 8 [(0, .ref x), (1, .int n), (2, .int lx), (3, .int ly), (4, .int hx1), (5, .int hy1)] := hl
  refine lv_iload_n hx hb d_B_put_0 rfl (lv_at hl 1 rfl) ?_
  refine pu_n (runS C0 (k_B_requireNumber l G w n hn9) (cs_B_28 C0 ⟨Nat.le_of_ble_eq_true rfl, Nat.le_of_ble_eq_true rfl⟩) hH hS rfl hl.1 rfl (lv_room (Nat.le_of_ble_eq_true rfl)) d_B_put_1 ⟨Nat.zero_le _, Nat.zero_le _⟩) ?_
  refine lv_iload_n hx hb d_B_put_4 rfl (lv_at hl 2 rfl) ?_
  refine lv_iload_n hx hb d_B_put_5 rfl (lv_at hl 3 rfl) ?_
  refine lv_iload hx hb d_B_put_6 (lv_at hl 4 rfl) ?_
  refine lv_iload hx hb d_B_put_8 (lv_at hl 5 rfl) ?_
  exact th_out ht C0.2.2.2.2.2.2 (xrunS C0 (t_B_requireBounds l hlt G w lx ly hx1 hy1 h) (cs_B_32 C0 ⟨by decide, by decide⟩) hH hS rfl hl.1 rfl (lv_room (Nat.le_of_ble_eq_true rfl)) d_B_put_10 ⟨Nat.le_refl _, Nat.le_refl _⟩)

set_option maxHeartbeats 4000000 in
set_option maxRecDepth 100000 in
theorem k_B_take (l : Launch) (G : Gl) (w : World) {x L E F Gd cF : Nat} {bs : List Bx} {rs : List Int32} (hD : DAt G w x L E F Gd bs rs cF) (n : Int32) (k : Nat) (hn9 : okN n) (hs : Srt bs) (hk : Lb bs n k) :
    GnI l y_B_take ws_B_take 6 0 0 G w [.ref x, .int n] (fun r w1 => (r = 1 ∧ (∃ h : k < bs.length, bs[k].1 = n) ∧ DQ G w w1 x L E F Gd (bs.eraseIdx k) rs (fun c => c = cF)) ∨ (r = 0 ∧ ¬ (∃ h : k < bs.length, bs[k].1 = n) ∧ DQ G w w1 x L E F Gd bs rs (fun c => c = cF))) := by
  refine met_ent (by decide +kernel) (Nat.le_of_ble_eq_true rfl) (fun p e s m below meth c ls C0 hr hin hH hl => ?_)
  have hx := C0.1
  have hb := C0.2.1
  have hS : va_S (gA G) s.heap s.heap [] := va_S.rf
  have hA : ∀ q : Nat, s.heap.size ≤ q → gA G q := fun q h => Nat.le_trans C0.ev.2.2.2.2.2.2.2.2.2.2.2.2 h
  have hl : lv_has ls 3 [(0, .ref x), (1, .int n)] := hl
  obtain ⟨hB, ⟨N, f, md, hLs, hN0⟩, ⟨g, hF, hg⟩, ⟨cG, d, hGd, hcG⟩, hc1, hc2, hc3⟩ := id hD
  obtain ⟨hL1, hL2, hL3, hL4, hL5⟩ := id hLs
  have h02 := ge0_none C0 hH
  refine lv_iload_n hx hb d_B_take_0 rfl (lv_at hl 1 rfl) ?_
  refine pu_n (runS C0 (k_B_requireNumber l G w n hn9) (cs_B_28 C0 ⟨Nat.le_of_ble_eq_true rfl, Nat.le_of_ble_eq_true rfl⟩) hH hS rfl hl.1 rfl (lv_room (Nat.le_of_ble_eq_true rfl)) d_B_take_1 ⟨by show _ ≤ 0; omega, by show _ ≤ 0; omega⟩) ?_
  refine lv_aload_n hx hb d_B_take_4 rfl (lv_at hl 0 rfl) ?_
  refine lv_iload_n hx hb d_B_take_5 rfl (lv_at hl 1 rfl) ?_
  refine pu_v (runV C0 (k_B_indexFor l G w n k hB hLs hs hk) (cs_B_41 C0 ⟨Nat.le_of_ble_eq_true rfl, Nat.le_of_ble_eq_true rfl⟩) hH hS (hd_recv C0.hK hH rfl hB) rfl hl.1 rfl (lv_room (Nat.le_of_ble_eq_true rfl)) d_B_take_6 ⟨by show _ ≤ 0; omega, by show _ ≤ 0; omega⟩) ?_
  refine lv_istore_n (lv' := [(2, .int (nI k)), (0, .ref x), (1, .int n)]) hx hb d_B_take_9 rfl hl (by decide) rfl (fun ls hl => ?_)
  refine lv_aload_n hx hb d_B_take_10 rfl (lv_at hl 1 rfl) ?_
  refine lv_iload_n hx hb d_B_take_11 rfl (lv_at hl 0 rfl) ?_
  refine lv_iload_n hx hb d_B_take_12 rfl (lv_at hl 2 rfl) ?_
  refine pu_v (runV C0 (k_B_isAt l G w k n hk.1 hB hLs) (cs_B_45 C0 ⟨Nat.le_of_ble_eq_true rfl, Nat.le_of_ble_eq_true rfl⟩) hH hS (hd_recv C0.hK hH rfl hB) rfl hl.1 rfl (lv_room (Nat.le_of_ble_eq_true rfl)) d_B_take_13 ⟨by show _ ≤ 0; omega, by show _ ≤ 0; omega⟩) ?_
  refine lv_if_ne (tgt := 21) hx hb d_B_take_16 (by decide) (fun c_16 => ?_) (fun c_16 => ?_)
  · have hth : (∃ h : k < bs.length, bs[k].1 = n) := Classical.byContradiction (fun h => c_16 (b01_f h))
    obtain ⟨hk1, -⟩ := id hth
    obtain ⟨xk, hxk, hxw⟩ := hL5 k hk1
    refine lv_aload_n hx hb d_B_take_21 rfl (lv_at hl 1 rfl) ?_
    refine gf_B_10 C0 hH hB rfl d_B_take_22 ?_
    refine lv_iload_n hx hb d_B_take_25 rfl (lv_at hl 0 rfl) ?_
    refine gn_q (runV C0 (k_A_remove l G w hL1 (hLs.arr (by omega)) hL2 hL3 hLs.q hk1 hxk) (cs_B_57 C0 ⟨Nat.le_of_ble_eq_true rfl, Nat.le_of_ble_eq_true rfl⟩) hH hS (hd_recv C0.hK hH rfl hL1) rfl hl.1 rfl (lv_room (Nat.le_of_ble_eq_true rfl)) d_B_take_26 ⟨by show _ ≤ 0; omega, by show _ ≤ 0; omega⟩) hS (fun r1 w1 H locs hp1 hH hS => ?_)
    obtain ⟨rfl, hr9⟩ := hp1
    obtain ⟨f9, md9, hls9, hkp9⟩ := rem_ls hLs h02 hr9 hk1
    refine lv_pop hx hb d_B_take_29 rfl ?_
    refine lv_iconst (v := 1) hx hb d_B_take_30 (by decide) ?_
    refine W.widen (k := 0) (n := 0) (by omega) (by omega) ?_
    exact W.zret hx hb hr rfl (fun t ht hW => ⟨⟨1, w1, rfl, Or.inl ⟨rfl, hth, DQ.of_list hD Kp.rf (Or.inl rfl) hkp9 h02 hls9 hN0⟩, Wo.at C0.ev hH hS ht hW⟩, hS.F ht⟩) hS.2.2 d_B_take_31 (hlocks := C0.2.2.2.2.2.2)
  · have hth : ¬ (∃ h : k < bs.length, bs[k].1 = n) := fun h => absurd ((b01_t h).symm.trans c_16) (by decide)
    refine lv_iconst (v := 0) hx hb d_B_take_19 (by decide) ?_
    refine W.widen (k := 0) (n := 0) (by omega) (by omega) ?_
    exact W.zret hx hb hr rfl (fun t ht hW => ⟨⟨0, w, rfl, Or.inr ⟨rfl, hth, E, F, Gd, cF, Or.inl rfl, Or.inl rfl, Or.inl rfl, hD, Kp.rf, rfl⟩, Wo.at C0.ev hH hS ht hW⟩, hS.F ht⟩) hS.2.2 d_B_take_20 (hlocks := C0.2.2.2.2.2.2)

set_option maxHeartbeats 4000000 in
set_option maxRecDepth 100000 in
theorem t_B_take (l : Launch) (hlt : l.stackTraces = false) (G : Gl) (w : World) {x : Nat} (n : Int32) (h : ¬ okN n) :
    ThM l y_B_take ws_B_take 8 G w [.ref x, .int n] "java/lang/IndexOutOfBoundsException" := by
  refine th_ent (by decide +kernel) (Nat.le_of_ble_eq_true rfl) (fun p e s m below meth c ls C0 ht hH hl => ?_)
  have hx := C0.1
  have hb := C0.2.1
  have hS : va_S (gA G) s.heap s.heap [] := va_S.rf
  have hl : lv_has ls 3 [(0, .ref x), (1, .int n)] := hl
  refine lv_iload_n hx hb d_B_take_0 rfl (lv_at hl 1 rfl) ?_
  exact th_out ht C0.2.2.2.2.2.2 (xrunS C0 (t_B_requireNumber l hlt G w n h) (cs_B_28 C0 ⟨by decide, by decide⟩) hH hS rfl hl.1 rfl (lv_room (Nat.le_of_ble_eq_true rfl)) d_B_take_1 ⟨Nat.le_refl _, Nat.le_refl _⟩)

set_option maxHeartbeats 4000000 in
set_option maxRecDepth 100000 in
theorem k_B_clear (l : Launch) (G : Gl) (w : World) {x L E F Gd cF : Nat} {bs : List Bx} {rs : List Int32} (hD : DAt G w x L E F Gd bs rs cF)  :
    GnI l y_B_clear ws_B_clear 2 0 0 G w [.ref x] (fun r w1 => r = nI bs.length ∧ DQ G w w1 x L E F Gd [] rs (fun c => c = cF)) := by
  refine met_ent (by decide +kernel) (Nat.le_of_ble_eq_true rfl) (fun p e s m below meth c ls C0 hr hin hH hl => ?_)
  have hx := C0.1
  have hb := C0.2.1
  have hS : va_S (gA G) s.heap s.heap [] := va_S.rf
  have hA : ∀ q : Nat, s.heap.size ≤ q → gA G q := fun q h => Nat.le_trans C0.ev.2.2.2.2.2.2.2.2.2.2.2.2 h
  have hl : lv_has ls 2 [(0, .ref x)] := hl
  obtain ⟨hB, ⟨N, f, md, hLs, hN0⟩, ⟨g, hF, hg⟩, ⟨cG, d, hGd, hcG⟩, hc1, hc2, hc3⟩ := id hD
  obtain ⟨hL1, hL2, hL3, hL4, hL5⟩ := id hLs
  have h02 := ge0_none C0 hH
  refine lv_aload_n hx hb d_B_clear_0 rfl (lv_at hl 0 rfl) ?_
  refine gf_B_10 C0 hH hB rfl d_B_clear_1 ?_
  refine pu_v (runV C0 (k_A_size l G w hL1) (cs_B_61 C0 ⟨Nat.le_of_ble_eq_true rfl, Nat.le_of_ble_eq_true rfl⟩) hH hS (hd_recv C0.hK hH rfl hL1) rfl hl.1 rfl (lv_room (Nat.le_of_ble_eq_true rfl)) d_B_clear_4 ⟨by show _ ≤ 0; omega, by show _ ≤ 0; omega⟩) ?_
  refine lv_istore_n (lv' := [(1, .int (nI bs.length)), (0, .ref x)]) hx hb d_B_clear_7 rfl hl (by decide) rfl (fun ls hl => ?_)
  refine lv_aload_n hx hb d_B_clear_8 rfl (lv_at hl 1 rfl) ?_
  refine gf_B_10 C0 hH hB rfl d_B_clear_9 ?_
  by_cases hl0 : bs.length = 0
  · refine gn_v (runV C0 (k_A_clear0 l G w (md := md) (hL1.trans (by rw [hl0])) hL4) (cs_B_65 C0 ⟨Nat.le_of_ble_eq_true rfl, Nat.le_of_ble_eq_true rfl⟩) hH hS (hd_recv C0.hK hH rfl hL1) rfl hl.1 rfl (lv_room (Nat.le_of_ble_eq_true rfl)) d_B_clear_12 ⟨by show _ ≤ 0; omega, by show _ ≤ 0; omega⟩) hS (fun w1 H locs hp1 hH hS => ?_)
    obtain ⟨f9, md9, hls9, hkp9⟩ := clr_ls hLs hp1
    refine lv_iload_n hx hb d_B_clear_15 rfl (lv_at hl 0 rfl) ?_
    refine W.widen (k := 0) (n := 0) (by omega) (by omega) ?_
    exact W.iret hx hb hr (fun t ht hW => ⟨⟨(nI bs.length), w1, rfl, ⟨rfl, DQ.of_list hD Kp.rf (Or.inl rfl) hkp9 h02 hls9 hN0⟩, Wo.at C0.ev hH hS ht hW⟩, hS.F ht⟩) hS.2.2 d_B_clear_16 (hlocks := C0.2.2.2.2.2.2)
  · refine gn_v (runV C0 (k_A_clear1 l G w hL1 (hLs.arr (by omega)) hL2 hL3) (cs_B_65 C0 ⟨Nat.le_of_ble_eq_true rfl, Nat.le_of_ble_eq_true rfl⟩) hH hS (hd_recv C0.hK hH rfl hL1) rfl hl.1 rfl (lv_room (Nat.le_of_ble_eq_true rfl)) d_B_clear_12 ⟨by show _ ≤ 0; omega, by show _ ≤ 0; omega⟩) hS (fun w2 H locs hp2 hH hS => ?_)
    obtain ⟨f9, md9, hls9, hkp9⟩ := clr_ls hLs hp2
    refine lv_iload_n hx hb d_B_clear_15 rfl (lv_at hl 0 rfl) ?_
    refine W.widen (k := 0) (n := 0) (by omega) (by omega) ?_
    exact W.iret hx hb hr (fun t ht hW => ⟨⟨(nI bs.length), w2, rfl, ⟨rfl, DQ.of_list hD Kp.rf (Or.inl rfl) hkp9 h02 hls9 hN0⟩, Wo.at C0.ev hH hS ht hW⟩, hS.F ht⟩) hS.2.2 d_B_clear_16 (hlocks := C0.2.2.2.2.2.2)
