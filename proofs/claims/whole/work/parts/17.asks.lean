/-! the drawer's questions that write nothing -/
/-- the drawer at x has the boxes bs and the result rs -/
def DAt (G : Gl) (w : World) (x L E F Gd : Nat) (bs : List Bx) (rs : List Int32) (cF : Nat) : Prop :=
  w x = some (.inr (2, [.ref L, .ref F, .int (nI rs.length), .ref Gd])) ∧ (∃ (N : Nat) (f : Nat → Option Nat) (md : Int32), LsAt G w L E N f md bs ∧ ((E = ge0 G ∧ N = 0) ∨ 0 < N)) ∧ (∃ g : Nat → Int32, w F = some (.inl (G.2.1.1, cF, .inl g)) ∧ ∀ (i : Nat) (h : i < rs.length), g i = rs[i]) ∧ (∃ (cG : Nat) (d : Nat → Int64), w Gd = some (.inl (G.2.1.2.1, cG, .inr (.inl d))) ∧ cG ≤ 4096) ∧ rs.length ≤ cF ∧ 16 ≤ cF ∧ cF ≤ 4096
def mmx (k a c : Int32) : Int32 := if k = 0 ∨ k = 1 then (if c < a then c else a) else (if a < c then c else a)
def bdsF (k : Int32) (v : Int32) (bs : List Bx) : Int32 := bs.foldl (fun a b => mmx k a (bnd b k)) v

set_option maxHeartbeats 4000000 in
set_option maxRecDepth 100000 in
theorem k_B_distance (l : Launch) (G : Gl) (w : World) {x L E F Gd cF : Nat} {bs : List Bx} {rs : List Int32} (hD : DAt G w x L E F Gd bs rs cF) (n : Int32) (k : Nat) (px py : Int32) (hs : Srt bs) (hk : Lb bs n k) {b : Bx} (hb9 : bs[k]? = some b) (hn9 : b.1 = n) (hp : okP px py) :
    PuM l y_B_distance ws_B_distance 5 G w [.ref x, .int n, .int px, .int py] (some (.long (bDst b px py))) := by
  refine met_ent (by decide +kernel) (Nat.le_of_ble_eq_true rfl) (fun p e s m below meth c ls C0 hr hin hH hl => ?_)
  have hx := C0.1
  have hb := C0.2.1
  have hS : va_S (gA G) s.heap s.heap [] := va_S.rf
  have hl : lv_has ls 5 [(0, .ref x), (1, .int n), (2, .int px), (3, .int py)] := hl
  obtain ⟨hB, ⟨N, f, md, hLs, hN0⟩, ⟨g, hF, hg⟩, ⟨cG, d, hGd, hcG⟩, hc1, hc2, hc3⟩ := id hD
  obtain ⟨hL1, hL2, hL3, hL4, hL5⟩ := id hLs
  obtain ⟨hk1, rfl⟩ := List.getElem?_eq_some_iff.mp hb9
  obtain ⟨xk, hxk, hxw⟩ := hL5 k hk1
  refine lv_aload_n hx hb d_B_distance_0 rfl (lv_at hl 0 rfl) ?_
  refine lv_iload_n hx hb d_B_distance_1 rfl (lv_at hl 1 rfl) ?_
  refine pu_v (runV C0 (k_B_requireBox l G w n k xk hB hLs hs hk ⟨hk1, hn9⟩ hxk) (cs_B_118 C0 ⟨Nat.le_of_ble_eq_true rfl, Nat.le_of_ble_eq_true rfl⟩) hH hS (hd_recv C0.hK hH rfl hB) rfl hl.1 rfl (lv_room (Nat.le_of_ble_eq_true rfl)) d_B_distance_2 ⟨Nat.zero_le _, Nat.zero_le _⟩) ?_
  refine lv_astore (lv' := [(4, .ref xk), (0, .ref x), (1, .int n), (2, .int px), (3, .int py)]) hx hb d_B_distance_5 hl (by decide) rfl (fun ls hl => ?_)
  refine lv_iload_n hx hb d_B_distance_7 rfl (lv_at hl 3 rfl) ?_
  refine lv_iload_n hx hb d_B_distance_8 rfl (lv_at hl 4 rfl) ?_
  refine pu_n (runS C0 (k_B_requirePlace l G w px py hp) (cs_B_90 C0 ⟨Nat.le_of_ble_eq_true rfl, Nat.le_of_ble_eq_true rfl⟩) hH hS rfl hl.1 rfl (lv_room (Nat.le_of_ble_eq_true rfl)) d_B_distance_9 ⟨Nat.zero_le _, Nat.zero_le _⟩) ?_
  refine lv_aload hx hb d_B_distance_12 (lv_at hl 0 rfl) ?_
  refine lv_iload_n hx hb d_B_distance_14 rfl (lv_at hl 3 rfl) ?_
  refine lv_iload_n hx hb d_B_distance_15 rfl (lv_at hl 4 rfl) ?_
  refine pu_v (runVN C0 (k_X_distanceFrom l G w px py hxw) (cs_B_106 C0 ⟨Nat.le_of_ble_eq_true rfl, Nat.le_of_ble_eq_true rfl⟩) hH hS (hd_recv C0.hK hH rfl hxw) rfl hl.1 rfl (lv_room (Nat.le_of_ble_eq_true rfl)) d_B_distance_16 ⟨Nat.zero_le _, Nat.zero_le _⟩) ?_
  exact W.lret hx hb hr (fun t ht _ => ⟨rfl, ht⟩) (fun _ h => by cases h) d_B_distance_19 (hlocks := C0.2.2.2.2.2.2)

set_option maxHeartbeats 4000000 in
set_option maxRecDepth 100000 in
theorem t_B_distance0 (l : Launch) (hlt : l.stackTraces = false) (G : Gl) (w : World) {x L E F Gd cF : Nat} {bs : List Bx} {rs : List Int32} (hD : DAt G w x L E F Gd bs rs cF) (n : Int32) (k : Nat) (px py : Int32) (hs : Srt bs) (hk : Lb bs n k) (h : ¬ ∃ h : k < bs.length, bs[k].1 = n) :
    ThM l y_B_distance ws_B_distance 7 G w [.ref x, .int n, .int px, .int py] "java/lang/IndexOutOfBoundsException" := by
  refine th_ent (by decide +kernel) (Nat.le_of_ble_eq_true rfl) (fun p e s m below meth c ls C0 ht hH hl => ?_)
  have hx := C0.1
  have hb := C0.2.1
  have hS : va_S (gA G) s.heap s.heap [] := va_S.rf
  have hl : lv_has ls 5 [(0, .ref x), (1, .int n), (2, .int px), (3, .int py)] := hl
  obtain ⟨hB, ⟨N, f, md, hLs, hN0⟩, ⟨g, hF, hg⟩, ⟨cG, d, hGd, hcG⟩, hc1, hc2, hc3⟩ := id hD
  obtain ⟨hL1, hL2, hL3, hL4, hL5⟩ := id hLs
  refine lv_aload_n hx hb d_B_distance_0 rfl (lv_at hl 0 rfl) ?_
  refine lv_iload_n hx hb d_B_distance_1 rfl (lv_at hl 1 rfl) ?_
  exact th_out ht C0.2.2.2.2.2.2 (xrunV C0 (t_B_requireBox l hlt G w n k hB hLs hs hk h) (cs_B_118 C0 ⟨by decide, by decide⟩) hH hS (hd_recv C0.hK hH rfl hB) rfl hl.1 rfl (lv_room (Nat.le_of_ble_eq_true rfl)) d_B_distance_2 ⟨Nat.le_refl _, Nat.le_refl _⟩)

set_option maxHeartbeats 4000000 in
set_option maxRecDepth 100000 in
theorem t_B_distance1 (l : Launch) (hlt : l.stackTraces = false) (G : Gl) (w : World) {x L E F Gd cF : Nat} {bs : List Bx} {rs : List Int32} (hD : DAt G w x L E F Gd bs rs cF) (n : Int32) (k : Nat) (px py : Int32) (hs : Srt bs) (hk : Lb bs n k) {b : Bx} (hb9 : bs[k]? = some b) (hn9 : b.1 = n) (hp : ¬ okP px py) :
    ThM l y_B_distance ws_B_distance 7 G w [.ref x, .int n, .int px, .int py] "java/lang/IllegalArgumentException" := by
  refine th_ent (by decide +kernel) (Nat.le_of_ble_eq_true rfl) (fun p e s m below meth c ls C0 ht hH hl => ?_)
  have hx := C0.1
  have hb := C0.2.1
  have hS : va_S (gA G) s.heap s.heap [] := va_S.rf
  have hl : lv_has ls 5 [(0, .ref x), (1, .int n), (2, .int px), (3, .int py)] := hl
  obtain ⟨hB, ⟨N, f, md, hLs, hN0⟩, ⟨g, hF, hg⟩, ⟨cG, d, hGd, hcG⟩, hc1, hc2, hc3⟩ := id hD
  obtain ⟨hL1, hL2, hL3, hL4, hL5⟩ := id hLs
  obtain ⟨hk1, rfl⟩ := List.getElem?_eq_some_iff.mp hb9
  obtain ⟨xk, hxk, hxw⟩ := hL5 k hk1
  refine lv_aload_n hx hb d_B_distance_0 rfl (lv_at hl 0 rfl) ?_
  refine lv_iload_n hx hb d_B_distance_1 rfl (lv_at hl 1 rfl) ?_
  refine pu_v (runV C0 (k_B_requireBox l G w n k xk hB hLs hs hk ⟨hk1, hn9⟩ hxk) (cs_B_118 C0 ⟨Nat.le_of_ble_eq_true rfl, Nat.le_of_ble_eq_true rfl⟩) hH hS (hd_recv C0.hK hH rfl hB) rfl hl.1 rfl (lv_room (Nat.le_of_ble_eq_true rfl)) d_B_distance_2 ⟨Nat.zero_le _, Nat.zero_le _⟩) ?_
  refine lv_astore (lv' := [(4, .ref xk), (0, .ref x), (1, .int n), (2, .int px), (3, .int py)]) hx hb d_B_distance_5 hl (by decide) rfl (fun ls hl => ?_)
  refine lv_iload_n hx hb d_B_distance_7 rfl (lv_at hl 3 rfl) ?_
  refine lv_iload_n hx hb d_B_distance_8 rfl (lv_at hl 4 rfl) ?_
  exact th_out ht C0.2.2.2.2.2.2 (xrunS C0 (t_B_requirePlace l hlt G w px py hp) (cs_B_90 C0 ⟨by decide, by decide⟩) hH hS rfl hl.1 rfl (lv_room (Nat.le_of_ble_eq_true rfl)) d_B_distance_9 ⟨Nat.le_refl _, Nat.le_refl _⟩)

set_option maxHeartbeats 4000000 in
set_option maxRecDepth 100000 in
theorem k_B_box (l : Launch) (G : Gl) (w : World) {x L E F Gd cF : Nat} {bs : List Bx} {rs : List Int32} (hD : DAt G w x L E F Gd bs rs cF) (n : Int32) (k : Nat) (z : Int32) (hs : Srt bs) (hk : Lb bs n k) {b : Bx} (hb9 : bs[k]? = some b) (hn9 : b.1 = n) (hp : okW z) :
    PuM l y_B_box ws_B_box 5 G w [.ref x, .int n, .int z] (some (.int (bnd b z))) := by
  refine met_ent (by decide +kernel) (Nat.le_of_ble_eq_true rfl) (fun p e s m below meth c ls C0 hr hin hH hl => ?_)
  have hx := C0.1
  have hb := C0.2.1
  have hS : va_S (gA G) s.heap s.heap [] := va_S.rf
  have hl : lv_has ls 4 [(0, .ref x), (1, .int n), (2, .int z)] := hl
  obtain ⟨hB, ⟨N, f, md, hLs, hN0⟩, ⟨g, hF, hg⟩, ⟨cG, d, hGd, hcG⟩, hc1, hc2, hc3⟩ := id hD
  obtain ⟨hL1, hL2, hL3, hL4, hL5⟩ := id hLs
  obtain ⟨hk1, rfl⟩ := List.getElem?_eq_some_iff.mp hb9
  obtain ⟨xk, hxk, hxw⟩ := hL5 k hk1
  refine lv_aload_n hx hb d_B_box_0 rfl (lv_at hl 0 rfl) ?_
  refine lv_iload_n hx hb d_B_box_1 rfl (lv_at hl 1 rfl) ?_
  refine pu_v (runV C0 (k_B_requireBox l G w n k xk hB hLs hs hk ⟨hk1, hn9⟩ hxk) (cs_B_118 C0 ⟨Nat.le_of_ble_eq_true rfl, Nat.le_of_ble_eq_true rfl⟩) hH hS (hd_recv C0.hK hH rfl hB) rfl hl.1 rfl (lv_room (Nat.le_of_ble_eq_true rfl)) d_B_box_2 ⟨Nat.zero_le _, Nat.zero_le _⟩) ?_
  refine lv_astore_n (lv' := [(3, .ref xk), (0, .ref x), (1, .int n), (2, .int z)]) hx hb d_B_box_5 rfl hl (by decide) rfl (fun ls hl => ?_)
  refine lv_iload_n hx hb d_B_box_6 rfl (lv_at hl 3 rfl) ?_
  refine pu_n (runS C0 (k_B_requireBound l G w z hp) (cs_B_122 C0 ⟨Nat.le_of_ble_eq_true rfl, Nat.le_of_ble_eq_true rfl⟩) hH hS rfl hl.1 rfl (lv_room (Nat.le_of_ble_eq_true rfl)) d_B_box_7 ⟨Nat.zero_le _, Nat.zero_le _⟩) ?_
  refine lv_aload_n hx hb d_B_box_10 rfl (lv_at hl 0 rfl) ?_
  refine lv_iload_n hx hb d_B_box_11 rfl (lv_at hl 3 rfl) ?_
  refine pu_v (runVN C0 (k_X_bound l G w z hxw) (cs_B_134 C0 ⟨Nat.le_of_ble_eq_true rfl, Nat.le_of_ble_eq_true rfl⟩) hH hS (hd_recv C0.hK hH rfl hxw) rfl hl.1 rfl (lv_room (Nat.le_of_ble_eq_true rfl)) d_B_box_12 ⟨Nat.zero_le _, Nat.zero_le _⟩) ?_
  exact W.iret hx hb hr (fun t ht _ => ⟨rfl, ht⟩) (fun _ h => by cases h) d_B_box_15 (hlocks := C0.2.2.2.2.2.2)

set_option maxHeartbeats 4000000 in
set_option maxRecDepth 100000 in
theorem t_B_box0 (l : Launch) (hlt : l.stackTraces = false) (G : Gl) (w : World) {x L E F Gd cF : Nat} {bs : List Bx} {rs : List Int32} (hD : DAt G w x L E F Gd bs rs cF) (n : Int32) (k : Nat) (z : Int32) (hs : Srt bs) (hk : Lb bs n k) (h : ¬ ∃ h : k < bs.length, bs[k].1 = n) :
    ThM l y_B_box ws_B_box 7 G w [.ref x, .int n, .int z] "java/lang/IndexOutOfBoundsException" := by
  refine th_ent (by decide +kernel) (Nat.le_of_ble_eq_true rfl) (fun p e s m below meth c ls C0 ht hH hl => ?_)
  have hx := C0.1
  have hb := C0.2.1
  have hS : va_S (gA G) s.heap s.heap [] := va_S.rf
  have hl : lv_has ls 4 [(0, .ref x), (1, .int n), (2, .int z)] := hl
  obtain ⟨hB, ⟨N, f, md, hLs, hN0⟩, ⟨g, hF, hg⟩, ⟨cG, d, hGd, hcG⟩, hc1, hc2, hc3⟩ := id hD
  obtain ⟨hL1, hL2, hL3, hL4, hL5⟩ := id hLs
  refine lv_aload_n hx hb d_B_box_0 rfl (lv_at hl 0 rfl) ?_
  refine lv_iload_n hx hb d_B_box_1 rfl (lv_at hl 1 rfl) ?_
  exact th_out ht C0.2.2.2.2.2.2 (xrunV C0 (t_B_requireBox l hlt G w n k hB hLs hs hk h) (cs_B_118 C0 ⟨by decide, by decide⟩) hH hS (hd_recv C0.hK hH rfl hB) rfl hl.1 rfl (lv_room (Nat.le_of_ble_eq_true rfl)) d_B_box_2 ⟨Nat.le_refl _, Nat.le_refl _⟩)

set_option maxHeartbeats 4000000 in
set_option maxRecDepth 100000 in
theorem t_B_box1 (l : Launch) (hlt : l.stackTraces = false) (G : Gl) (w : World) {x L E F Gd cF : Nat} {bs : List Bx} {rs : List Int32} (hD : DAt G w x L E F Gd bs rs cF) (n : Int32) (k : Nat) (z : Int32) (hs : Srt bs) (hk : Lb bs n k) {b : Bx} (hb9 : bs[k]? = some b) (hn9 : b.1 = n) (hp : ¬ okW z) :
    ThM l y_B_box ws_B_box 7 G w [.ref x, .int n, .int z] "java/lang/IndexOutOfBoundsException" := by
  refine th_ent (by decide +kernel) (Nat.le_of_ble_eq_true rfl) (fun p e s m below meth c ls C0 ht hH hl => ?_)
  have hx := C0.1
  have hb := C0.2.1
  have hS : va_S (gA G) s.heap s.heap [] := va_S.rf
  have hl : lv_has ls 4 [(0, .ref x), (1, .int n), (2, .int z)] := hl
  obtain ⟨hB, ⟨N, f, md, hLs, hN0⟩, ⟨g, hF, hg⟩, ⟨cG, d, hGd, hcG⟩, hc1, hc2, hc3⟩ := id hD
  obtain ⟨hL1, hL2, hL3, hL4, hL5⟩ := id hLs
  obtain ⟨hk1, rfl⟩ := List.getElem?_eq_some_iff.mp hb9
  obtain ⟨xk, hxk, hxw⟩ := hL5 k hk1
  refine lv_aload_n hx hb d_B_box_0 rfl (lv_at hl 0 rfl) ?_
  refine lv_iload_n hx hb d_B_box_1 rfl (lv_at hl 1 rfl) ?_
  refine pu_v (runV C0 (k_B_requireBox l G w n k xk hB hLs hs hk ⟨hk1, hn9⟩ hxk) (cs_B_118 C0 ⟨Nat.le_of_ble_eq_true rfl, Nat.le_of_ble_eq_true rfl⟩) hH hS (hd_recv C0.hK hH rfl hB) rfl hl.1 rfl (lv_room (Nat.le_of_ble_eq_true rfl)) d_B_box_2 ⟨Nat.zero_le _, Nat.zero_le _⟩) ?_
  refine lv_astore_n (lv' := [(3, .ref xk), (0, .ref x), (1, .int n), (2, .int z)]) hx hb d_B_box_5 rfl hl (by decide) rfl (fun ls hl => ?_)
  refine lv_iload_n hx hb d_B_box_6 rfl (lv_at hl 3 rfl) ?_
  exact th_out ht C0.2.2.2.2.2.2 (xrunS C0 (t_B_requireBound l hlt G w z hp) (cs_B_122 C0 ⟨by decide, by decide⟩) hH hS rfl hl.1 rfl (lv_room (Nat.le_of_ble_eq_true rfl)) d_B_box_7 ⟨Nat.le_refl _, Nat.le_refl _⟩)

set_option maxHeartbeats 4000000 in
set_option maxRecDepth 100000 in
theorem k_B_result (l : Launch) (G : Gl) (w : World) {x L E F Gd cF : Nat} {bs : List Bx} {rs : List Int32} (hD : DAt G w x L E F Gd bs rs cF) {i : Nat} (hi : i < rs.length) :
    PuM l y_B_result ws_B_result 0 G w [.ref x, .int (nI i)] (some (.int rs[i])) := by
  refine met_ent (by decide +kernel) (Nat.le_of_ble_eq_true rfl) (fun p e s m below meth c ls C0 hr hin hH hl => ?_)
  have hx := C0.1
  have hb := C0.2.1
  have hS : va_S (gA G) s.heap s.heap [] := va_S.rf
  have hA : ∀ q : Nat, s.heap.size ≤ q → gA G q := fun q h => Nat.le_trans C0.ev.2.2.2.2.2.2.2.2.2.2.2.2 h
  have hl : lv_has ls 2 [(0, .ref x), (1, .int (nI i))] := hl
  obtain ⟨hB, ⟨N, f, md, hLs, hN0⟩, ⟨g, hF, hg⟩, ⟨cG, d, hGd, hcG⟩, hc1, hc2, hc3⟩ := id hD
  obtain ⟨hL1, hL2, hL3, hL4, hL5⟩ := id hLs
  refine lv_iload_n hx hb d_B_result_0 rfl (lv_at hl 1 rfl) ?_
  refine lv_if_lt (tgt := 21) hx hb d_B_result_1 (by decide) (fun c_1 => ?_) (fun c_1 => ?_)
  · exact absurd c_1 (nI_pos (by omega))
  · refine lv_iload_n hx hb d_B_result_4 rfl (lv_at hl 1 rfl) ?_
    refine lv_aload_n hx hb d_B_result_5 rfl (lv_at hl 0 rfl) ?_
    refine gf_B_20 C0 hH hB rfl d_B_result_6 ?_
    refine lv_icmp_ge (tgt := 21) hx hb d_B_result_9 (by decide) (fun c_9 => ?_) (fun c_9 => ?_)
    · exact absurd (nI_lt hi (by omega)) (Int32.not_lt.mpr c_9)
    · refine lv_iload_n hx hb d_B_result_12 rfl (lv_at hl 1 rfl) ?_
      refine lv_aload_n hx hb d_B_result_13 rfl (lv_at hl 0 rfl) ?_
      refine gf_B_16 C0 hH hB rfl d_B_result_14 ?_
      refine hd_alen hx hb C0.hK hH 0 hF rfl (v := nI cF) rfl d_B_result_17 ?_
      refine lv_icmp_lt (tgt := 31) hx hb d_B_result_18 (by decide) (fun c_18 => ?_) (fun c_18 => ?_)
      · refine lv_aload_n hx hb d_B_result_31 rfl (lv_at hl 0 rfl) ?_
        refine gf_B_16 C0 hH hB rfl d_B_result_32 ?_
        refine lv_iload_n hx hb d_B_result_35 rfl (lv_at hl 1 rfl) ?_
        refine hd_iald hx hb C0.hK hH 0 hF rfl (vp_in_nI (by omega) (by omega)) d_B_result_36 ?_
        rw [nI_clamp (by omega)]
        exact W.iret hx hb hr (fun t ht _ => ⟨by rw [hg i hi], ht⟩) (fun _ h => by cases h) d_B_result_37 (hlocks := C0.2.2.2.2.2.2)
      · exact absurd (nI_lt (show i < cF by omega) (by omega)) c_18

set_option maxHeartbeats 4000000 in
set_option maxRecDepth 100000 in
theorem t_B_result (l : Launch) (hlt : l.stackTraces = false) (G : Gl) (w : World) {x L E F Gd cF : Nat} {bs : List Bx} {rs : List Int32} (hD : DAt G w x L E F Gd bs rs cF) (i : Int32) (h : ¬ (0 ≤ i ∧ i < nI rs.length)) :
    ThM l y_B_result ws_B_result 7 G w [.ref x, .int i] "java/lang/IndexOutOfBoundsException" := by
  refine th_ent (by decide +kernel) (Nat.le_of_ble_eq_true rfl) (fun p e s m below meth c ls C0 ht hH hl => ?_)
  have hx := C0.1
  have hb := C0.2.1
  have hS : va_S (gA G) s.heap s.heap [] := va_S.rf
  have hl : lv_has ls 2 [(0, .ref x), (1, .int i)] := hl
  obtain ⟨hB, ⟨N, f, md, hLs, hN0⟩, ⟨g, hF, hg⟩, ⟨cG, d, hGd, hcG⟩, hc1, hc2, hc3⟩ := id hD
  obtain ⟨hL1, hL2, hL3, hL4, hL5⟩ := id hLs
  refine lv_iload_n hx hb d_B_result_0 rfl (lv_at hl 1 rfl) ?_
  refine lv_if_lt (tgt := 21) hx hb d_B_result_1 (by decide) (fun c_1 => ?_) (fun c_1 => ?_)
  · exact th_throw (text := "no such place in the result") hlt C0 (by decide +kernel) mw_154 mw_9 at_io og_io (by decide +kernel) hl.1 d_B_result_21 d_B_result_24 d_B_result_25 d_B_result_27 d_B_result_30 ht (by decide)
  · refine lv_iload_n hx hb d_B_result_4 rfl (lv_at hl 1 rfl) ?_
    refine lv_aload_n hx hb d_B_result_5 rfl (lv_at hl 0 rfl) ?_
    refine gf_B_20 C0 hH hB rfl d_B_result_6 ?_
    refine lv_icmp_ge (tgt := 21) hx hb d_B_result_9 (by decide) (fun c_9 => ?_) (fun c_9 => ?_)
    · exact th_throw (text := "no such place in the result") hlt C0 (by decide +kernel) mw_154 mw_9 at_io og_io (by decide +kernel) hl.1 d_B_result_21 d_B_result_24 d_B_result_25 d_B_result_27 d_B_result_30 ht (by decide)
    · refine lv_iload_n hx hb d_B_result_12 rfl (lv_at hl 1 rfl) ?_
      refine lv_aload_n hx hb d_B_result_13 rfl (lv_at hl 0 rfl) ?_
      refine gf_B_16 C0 hH hB rfl d_B_result_14 ?_
      refine hd_alen hx hb C0.hK hH 0 hF rfl (v := nI cF) rfl d_B_result_17 ?_
      refine lv_icmp_lt (tgt := 31) hx hb d_B_result_18 (by decide) (fun c_18 => ?_) (fun c_18 => ?_)
      · exact absurd ⟨Int32.not_lt.mp c_1, Int32.not_le.mp c_9⟩ h
      · exact th_throw (text := "no such place in the result") hlt C0 (by decide +kernel) mw_154 mw_9 at_io og_io (by decide +kernel) hl.1 d_B_result_21 d_B_result_24 d_B_result_25 d_B_result_27 d_B_result_30 ht (by decide)

set_option maxHeartbeats 4000000 in
set_option maxRecDepth 100000 in
theorem k_B_count (l : Launch) (G : Gl) (w : World) {x L E F Gd cF : Nat} {bs : List Bx} {rs : List Int32} (hD : DAt G w x L E F Gd bs rs cF) (k : Int32) :
    PuM l y_B_count ws_B_count 1 G w [.ref x, .int k] (some (.int (if k = 0 then nI bs.length else if k = 1 then nI rs.length else -1))) := by
  refine met_ent (by decide +kernel) (Nat.le_of_ble_eq_true rfl) (fun p e s m below meth c ls C0 hr hin hH hl => ?_)
  have hx := C0.1
  have hb := C0.2.1
  have hS : va_S (gA G) s.heap s.heap [] := va_S.rf
  have hl : lv_has ls 2 [(0, .ref x), (1, .int k)] := hl
  obtain ⟨hB, ⟨N, f, md, hLs, hN0⟩, ⟨g, hF, hg⟩, ⟨cG, d, hGd, hcG⟩, hc1, hc2, hc3⟩ := id hD
  obtain ⟨hL1, hL2, hL3, hL4, hL5⟩ := id hLs
  refine lv_iload_n hx hb d_B_count_0 rfl (lv_at hl 1 rfl) ?_
  by_cases h0 : k = 0
  · subst h0
    refine lv_lookup (off := 27) (tgt := 28) hx hb d_B_count_1 (by decide) (by decide) (by decide) ?_
    refine lv_aload_n hx hb d_B_count_28 rfl (lv_at hl 0 rfl) ?_
    refine gf_B_10 C0 hH hB rfl d_B_count_29 ?_
    refine pu_v (runV C0 (k_A_size l G w hL1) (cs_B_61 C0 ⟨Nat.le_of_ble_eq_true rfl, Nat.le_of_ble_eq_true rfl⟩) hH hS (hd_recv C0.hK hH rfl hL1) rfl hl.1 rfl (lv_room (Nat.le_of_ble_eq_true rfl)) d_B_count_32 ⟨Nat.zero_le _, Nat.zero_le _⟩) ?_
    exact W.iret hx hb hr (fun t ht _ => ⟨rfl, ht⟩) (fun _ h => by cases h) d_B_count_35 (hlocks := C0.2.2.2.2.2.2)
  by_cases h1 : k = 1
  · subst h1
    refine lv_lookup (off := 35) (tgt := 36) hx hb d_B_count_1 (by decide) (by decide) (by decide) ?_
    refine lv_aload_n hx hb d_B_count_36 rfl (lv_at hl 0 rfl) ?_
    refine gf_B_20 C0 hH hB rfl d_B_count_37 ?_
    exact W.iret hx hb hr (fun t ht _ => ⟨rfl, ht⟩) (fun _ h => by cases h) d_B_count_40 (hlocks := C0.2.2.2.2.2.2)
  refine lv_lookup (off := 40) (tgt := 41) hx hb d_B_count_1 (by decide) (by have a0 := tIne h0; have a1 := tIne h1; rw [tI0] at a0; rw [tI1] at a1; simp only [Op.lookupswitch.offset]; rw [if_neg (fun h => a0 h.symm), if_neg (fun h => a1 h.symm)]) (by decide) ?_
  refine lv_iconst (v := (-1)) hx hb d_B_count_41 (by decide) ?_
  exact W.iret hx hb hr (fun t ht _ => ⟨by rw [if_neg h0, if_neg h1], ht⟩) (fun _ h => by cases h) d_B_count_42 (hlocks := C0.2.2.2.2.2.2)

set_option maxHeartbeats 4000000 in
set_option maxRecDepth 100000 in
theorem k_B_bounds (l : Launch) (G : Gl) (w : World) {x L E F Gd cF : Nat} {b : Bx} {bt : List Bx} {rs : List Int32} (hD : DAt G w x L E F Gd (b :: bt) rs cF) (hln : (b :: bt).length ≤ 4096) (z : Int32) (hz : okW z) :
    PuM l y_B_bounds ws_B_bounds 4 G w [.ref x, .int z] (some (.int (bdsF z (bnd b z) bt))) := by
  refine met_ent (by decide +kernel) (Nat.le_of_ble_eq_true rfl) (fun p e s m below meth c ls C0 hr hin hH hl => ?_)
  have hx := C0.1
  have hb := C0.2.1
  have hS : va_S (gA G) s.heap s.heap [] := va_S.rf
  have hl : lv_has ls 5 [(0, .ref x), (1, .int z)] := hl
  obtain ⟨hB, ⟨N, f, md, hLs, hN0⟩, ⟨g, hF, hg⟩, ⟨cG, d, hGd, hcG⟩, hc1, hc2, hc3⟩ := id hD
  obtain ⟨hL1, hL2, hL3, hL4, hL5⟩ := id hLs
  have hpos : 0 < (b :: bt).length := by simp
  refine lv_iload_n hx hb d_B_bounds_0 rfl (lv_at hl 1 rfl) ?_
  refine pu_n (runS C0 (k_B_requireBound l G w z hz) (cs_B_122 C0 ⟨Nat.le_of_ble_eq_true rfl, Nat.le_of_ble_eq_true rfl⟩) hH hS rfl hl.1 rfl (lv_room (Nat.le_of_ble_eq_true rfl)) d_B_bounds_1 ⟨Nat.zero_le _, Nat.zero_le _⟩) ?_
  refine lv_aload_n hx hb d_B_bounds_4 rfl (lv_at hl 0 rfl) ?_
  refine gf_B_10 C0 hH hB rfl d_B_bounds_5 ?_
  refine pu_v (runV C0 (k_A_isEmpty l G w hL1) (cs_B_125 C0 ⟨Nat.le_of_ble_eq_true rfl, Nat.le_of_ble_eq_true rfl⟩) hH hS (hd_recv C0.hK hH rfl hL1) rfl hl.1 rfl (lv_room (Nat.le_of_ble_eq_true rfl)) d_B_bounds_8 ⟨Nat.zero_le _, Nat.zero_le _⟩) ?_
  refine lv_if_eq (tgt := 24) hx hb d_B_bounds_11 (by decide) (fun c_11 => ?_) (fun c_11 => ?_)
  · refine lv_aload_n hx hb d_B_bounds_24 rfl (lv_at hl 0 rfl) ?_
    refine gf_B_10 C0 hH hB rfl d_B_bounds_25 ?_
    refine lv_iconst (v := 0) hx hb d_B_bounds_28 (by decide) ?_
    rw [show (0 : Int32) = nI 0 from nI_0.symm]
    obtain ⟨x0, hf_x0, h_x0⟩ := hL5 0 (by simp)
    refine pu_v (runV C0 (k_A_get l G w hL1 (hLs.arr (by omega)) (i := 0) (by omega) hL2 (by omega) hf_x0) (cs_B_75 C0 ⟨Nat.le_of_ble_eq_true rfl, Nat.le_of_ble_eq_true rfl⟩) hH hS (hd_recv C0.hK hH rfl hL1) rfl hl.1 rfl (lv_room (Nat.le_of_ble_eq_true rfl)) d_B_bounds_29 ⟨Nat.zero_le _, Nat.zero_le _⟩) ?_
    refine va_castY hx hb C0.2.2.2.1 (C0.2.2.2.2.1 _ mw_104) (C0.ev.2.2.2.2.2.2.1 (Cond.castable "BoxDrawer$Box" "BoxDrawer$Box") (by decide +kernel)) (hd_recv C0.hK hH rfl h_x0) d_B_bounds_32 ?_
    refine lv_iload_n hx hb d_B_bounds_35 rfl (lv_at hl 1 rfl) ?_
    refine pu_v (runVN C0 (k_X_bound l G w z h_x0) (cs_B_134 C0 ⟨Nat.le_of_ble_eq_true rfl, Nat.le_of_ble_eq_true rfl⟩) hH hS (hd_recv C0.hK hH rfl h_x0) rfl hl.1 rfl (lv_room (Nat.le_of_ble_eq_true rfl)) d_B_bounds_36 ⟨Nat.zero_le _, Nat.zero_le _⟩) ?_
    refine lv_istore_n (lv' := [(2, .int (bnd b z)), (0, .ref x), (1, .int z)]) hx hb d_B_bounds_39 rfl hl (by decide) rfl (fun ls hl => ?_)
    refine lv_iconst (v := 1) hx hb d_B_bounds_40 (by decide) ?_
    refine lv_istore_n (lv' := [(3, .int 1), (2, .int (bnd b z)), (0, .ref x), (1, .int z)]) hx hb d_B_bounds_41 rfl hl (by decide) rfl (fun ls hl => ?_)
    have loop : ∀ (u j : Nat) (v : Int32), j + u = (b :: bt).length → 1 ≤ j → bdsF z v ((b :: bt).drop j) = bdsF z (bnd b z) bt → ∀ ls : Array Slot, lv_has ls 5 [(0, .ref x), (1, .int z), (2, .int v), (3, .int (nI j))] → W p l e (rmK 4 0 0) s m [.ref x, .int z].toArray below meth c s.heap [] 0 0 (MQ below (PuQ (some (.int (bdsF z (bnd b z) bt)))) [.ref x, .int z].toArray s 0 0 (fun _ => False)) (F0 m 42 ls []) := by
      intro u
      induction u with
      | zero =>
        intro j v hj h1 hv ls hl
        refine lv_iload_n hx hb d_B_bounds_42 rfl (lv_at hl 3 rfl) ?_
        refine lv_aload_n hx hb d_B_bounds_43 rfl (lv_at hl 0 rfl) ?_
        refine gf_B_10 C0 hH hB rfl d_B_bounds_44 ?_
        refine pu_v (runV C0 (k_A_size l G w hL1) (cs_B_61 C0 ⟨Nat.le_of_ble_eq_true rfl, Nat.le_of_ble_eq_true rfl⟩) hH hS (hd_recv C0.hK hH rfl hL1) rfl hl.1 rfl (lv_room (Nat.le_of_ble_eq_true rfl)) d_B_bounds_47 ⟨Nat.zero_le _, Nat.zero_le _⟩) ?_
        refine lv_icmp_ge (tgt := 99) hx hb d_B_bounds_50 (by decide) (fun c_50 => ?_) (fun c_50 => ?_)
        · refine lv_iload_n hx hb d_B_bounds_99 rfl (lv_at hl 2 rfl) ?_
          exact W.iret hx hb hr (fun t ht _ => ⟨by rw [← hv, List.drop_eq_nil_of_le (by omega)]; rfl, ht⟩) (fun _ h => by cases h) d_B_bounds_100 (hlocks := C0.2.2.2.2.2.2)
        · exact absurd (nI_le (show (b :: bt).length ≤ j by omega) (by omega)) c_50
      | succ u ih =>
        intro j v hj h1 hv ls hl
        refine lv_iload_n hx hb d_B_bounds_42 rfl (lv_at hl 3 rfl) ?_
        refine lv_aload_n hx hb d_B_bounds_43 rfl (lv_at hl 0 rfl) ?_
        refine gf_B_10 C0 hH hB rfl d_B_bounds_44 ?_
        refine pu_v (runV C0 (k_A_size l G w hL1) (cs_B_61 C0 ⟨Nat.le_of_ble_eq_true rfl, Nat.le_of_ble_eq_true rfl⟩) hH hS (hd_recv C0.hK hH rfl hL1) rfl hl.1 rfl (lv_room (Nat.le_of_ble_eq_true rfl)) d_B_bounds_47 ⟨Nat.zero_le _, Nat.zero_le _⟩) ?_
        refine lv_icmp_ge (tgt := 99) hx hb d_B_bounds_50 (by decide) (fun c_50 => ?_) (fun c_50 => ?_)
        · exact absurd c_50 (Int32.not_le.mpr (nI_lt (show j < (b :: bt).length by omega) (by omega)))
        · have hjl : j < (b :: bt).length := by omega
          refine lv_aload_n hx hb d_B_bounds_53 rfl (lv_at hl 0 rfl) ?_
          refine gf_B_10 C0 hH hB rfl d_B_bounds_54 ?_
          refine lv_iload_n hx hb d_B_bounds_57 rfl (lv_at hl 3 rfl) ?_
          obtain ⟨xj, hf_xj, h_xj⟩ := hL5 j (hjl)
          refine pu_v (runV C0 (k_A_get l G w hL1 (hLs.arr (by omega)) (i := j) (by omega) hL2 (by omega) hf_xj) (cs_B_75 C0 ⟨Nat.le_of_ble_eq_true rfl, Nat.le_of_ble_eq_true rfl⟩) hH hS (hd_recv C0.hK hH rfl hL1) rfl hl.1 rfl (lv_room (Nat.le_of_ble_eq_true rfl)) d_B_bounds_58 ⟨Nat.zero_le _, Nat.zero_le _⟩) ?_
          refine va_castY hx hb C0.2.2.2.1 (C0.2.2.2.2.1 _ mw_104) (C0.ev.2.2.2.2.2.2.1 (Cond.castable "BoxDrawer$Box" "BoxDrawer$Box") (by decide +kernel)) (hd_recv C0.hK hH rfl h_xj) d_B_bounds_61 ?_
          refine lv_iload_n hx hb d_B_bounds_64 rfl (lv_at hl 1 rfl) ?_
          refine pu_v (runVN C0 (k_X_bound l G w z h_xj) (cs_B_134 C0 ⟨Nat.le_of_ble_eq_true rfl, Nat.le_of_ble_eq_true rfl⟩) hH hS (hd_recv C0.hK hH rfl h_xj) rfl hl.1 rfl (lv_room (Nat.le_of_ble_eq_true rfl)) d_B_bounds_65 ⟨Nat.zero_le _, Nat.zero_le _⟩) ?_
          refine lv_istore (lv' := [(4, .int (bnd (b :: bt)[j] z)), (0, .ref x), (1, .int z), (2, .int v), (3, .int (nI j))]) hx hb d_B_bounds_68 hl (by decide) rfl (fun ls hl => ?_)
          refine lv_iload_n hx hb d_B_bounds_70 rfl (lv_at hl 2 rfl) ?_
          refine pu_v (runS C0 (k_B_isLeast l G w z) (cs_B_137 C0 ⟨Nat.le_of_ble_eq_true rfl, Nat.le_of_ble_eq_true rfl⟩) hH hS rfl hl.1 rfl (lv_room (Nat.le_of_ble_eq_true rfl)) d_B_bounds_71 ⟨Nat.zero_le _, Nat.zero_le _⟩) ?_
          refine lv_if_eq (tgt := 86) hx hb d_B_bounds_74 (by decide) (fun c_74 => ?_) (fun c_74 => ?_)
          · have c_74 : ¬ (z = 0 ∨ z = 1) := fun h => absurd ((b01_t h).symm.trans c_74) (by decide)
            refine lv_iload_n hx hb d_B_bounds_86 rfl (lv_at hl 3 rfl) ?_
            refine lv_iload hx hb d_B_bounds_87 (lv_at hl 0 rfl) ?_
            refine va_mmax hx hb (C0.2.2.1.trans hl.1.symm) C0.2.2.2.1 (C0.2.2.2.2.1 _ mw_118) (C0.2.2.2.2.1 _ mw_119) (C0.2.2.2.2.1 _ mw_19) (C0.2.2.2.2.1 _ mw_120) (Nat.le_of_ble_eq_true rfl) (Nat.le_of_ble_eq_true rfl) (Nat.zero_le _) (Nat.zero_le _) d_B_bounds_89 ?_
            refine lv_istore_n (lv' := [(2, .int (if v < (bnd (b :: bt)[j] z) then (bnd (b :: bt)[j] z) else v)), (4, .int (bnd (b :: bt)[j] z)), (0, .ref x), (1, .int z), (3, .int (nI j))]) hx hb d_B_bounds_92 rfl hl (by decide) rfl (fun ls hl => ?_)
            obtain ⟨y_1, ey_1⟩ : ∃ z : Int32, z = (nI j) + 1 := ⟨_, rfl⟩
            refine lv_iinc (v := y_1) (lv' := [(3, .int y_1), (2, .int (if v < (bnd (b :: bt)[j] z) then (bnd (b :: bt)[j] z) else v)), (4, .int (bnd (b :: bt)[j] z)), (0, .ref x), (1, .int z)]) hx hb d_B_bounds_93 hl (k := 4) rfl (by rw [ey_1]; rfl) (by decide) rfl (fun ls hl => ?_)
            refine lv_goto (tgt := 42) hx hb d_B_bounds_96 (by decide) ?_
            rw [show y_1 = nI (j + 1) from by rw [ey_1]; exact nI_1 j] at hl
            exact ih (j + 1) _ (by omega) (by omega) (by rw [← hv, List.drop_eq_getElem_cons hjl]; show _ = bdsF z (mmx z v (bnd (b :: bt)[j] z)) _; unfold mmx; rw [if_neg c_74]) ls (lv_sub hl [3, 4, 1, 0] rfl)
          · have c_74 : z = 0 ∨ z = 1 := Classical.byContradiction (fun h => c_74 (b01_f h))
            refine lv_iload_n hx hb d_B_bounds_77 rfl (lv_at hl 3 rfl) ?_
            refine lv_iload hx hb d_B_bounds_78 (lv_at hl 0 rfl) ?_
            refine va_mmin hx hb (C0.2.2.1.trans hl.1.symm) C0.2.2.2.1 (C0.2.2.2.2.1 _ mw_121) (C0.2.2.2.2.1 _ mw_122) (C0.2.2.2.2.1 _ mw_19) (C0.2.2.2.2.1 _ mw_123) (Nat.le_of_ble_eq_true rfl) (Nat.le_of_ble_eq_true rfl) (Nat.zero_le _) (Nat.zero_le _) d_B_bounds_80 ?_
            refine lv_goto (tgt := 92) hx hb d_B_bounds_83 (by decide) ?_
            refine lv_istore_n (lv' := [(2, .int (if (bnd (b :: bt)[j] z) < v then (bnd (b :: bt)[j] z) else v)), (4, .int (bnd (b :: bt)[j] z)), (0, .ref x), (1, .int z), (3, .int (nI j))]) hx hb d_B_bounds_92 rfl hl (by decide) rfl (fun ls hl => ?_)
            obtain ⟨y_2, ey_2⟩ : ∃ z : Int32, z = (nI j) + 1 := ⟨_, rfl⟩
            refine lv_iinc (v := y_2) (lv' := [(3, .int y_2), (2, .int (if (bnd (b :: bt)[j] z) < v then (bnd (b :: bt)[j] z) else v)), (4, .int (bnd (b :: bt)[j] z)), (0, .ref x), (1, .int z)]) hx hb d_B_bounds_93 hl (k := 4) rfl (by rw [ey_2]; rfl) (by decide) rfl (fun ls hl => ?_)
            refine lv_goto (tgt := 42) hx hb d_B_bounds_96 (by decide) ?_
            rw [show y_2 = nI (j + 1) from by rw [ey_2]; exact nI_1 j] at hl
            exact ih (j + 1) _ (by omega) (by omega) (by rw [← hv, List.drop_eq_getElem_cons hjl]; show _ = bdsF z (mmx z v (bnd (b :: bt)[j] z)) _; unfold mmx; rw [if_pos c_74]) ls (lv_sub hl [3, 4, 1, 0] rfl)
    exact loop bt.length 1 (bnd b z) (by simp; omega) (Nat.le_refl _) rfl ls (lv_sub hl [2, 3, 1, 0] rfl)
  · exact absurd (if_neg (fun h => absurd ((nI_eq (a := (b :: bt).length) (b := 0) (by omega) (by omega)).mp h) (by simp))) c_11

set_option maxHeartbeats 4000000 in
set_option maxRecDepth 100000 in
theorem t_B_bounds0 (l : Launch) (hlt : l.stackTraces = false) (G : Gl) (w : World) {x L E F Gd cF : Nat} {bs : List Bx} {rs : List Int32} (hD : DAt G w x L E F Gd bs rs cF) (z : Int32) (hz : ¬ okW z) :
    ThM l y_B_bounds ws_B_bounds 7 G w [.ref x, .int z] "java/lang/IndexOutOfBoundsException" := by
  refine th_ent (by decide +kernel) (Nat.le_of_ble_eq_true rfl) (fun p e s m below meth c ls C0 ht hH hl => ?_)
  have hx := C0.1
  have hb := C0.2.1
  have hS : va_S (gA G) s.heap s.heap [] := va_S.rf
  have hl : lv_has ls 5 [(0, .ref x), (1, .int z)] := hl
  refine lv_iload_n hx hb d_B_bounds_0 rfl (lv_at hl 1 rfl) ?_
  exact th_out ht C0.2.2.2.2.2.2 (xrunS C0 (t_B_requireBound l hlt G w z hz) (cs_B_122 C0 ⟨by decide, by decide⟩) hH hS rfl hl.1 rfl (lv_room (Nat.le_of_ble_eq_true rfl)) d_B_bounds_1 ⟨Nat.le_refl _, Nat.le_refl _⟩)

set_option maxHeartbeats 4000000 in
set_option maxRecDepth 100000 in
theorem t_B_bounds1 (l : Launch) (hlt : l.stackTraces = false) (G : Gl) (w : World) {x L E F Gd cF : Nat} {rs : List Int32} (hD : DAt G w x L E F Gd [] rs cF) (z : Int32) (hz : okW z) :
    ThM l y_B_bounds ws_B_bounds 7 G w [.ref x, .int z] "java/lang/IllegalStateException" := by
  refine th_ent (by decide +kernel) (Nat.le_of_ble_eq_true rfl) (fun p e s m below meth c ls C0 ht hH hl => ?_)
  have hx := C0.1
  have hb := C0.2.1
  have hS : va_S (gA G) s.heap s.heap [] := va_S.rf
  have hl : lv_has ls 5 [(0, .ref x), (1, .int z)] := hl
  obtain ⟨hB, ⟨N, f, md, hLs, hN0⟩, ⟨g, hF, hg⟩, ⟨cG, d, hGd, hcG⟩, hc1, hc2, hc3⟩ := id hD
  obtain ⟨hL1, hL2, hL3, hL4, hL5⟩ := id hLs
  refine lv_iload_n hx hb d_B_bounds_0 rfl (lv_at hl 1 rfl) ?_
  refine pu_n (runS C0 (k_B_requireBound l G w z hz) (cs_B_122 C0 ⟨Nat.le_of_ble_eq_true rfl, Nat.le_of_ble_eq_true rfl⟩) hH hS rfl hl.1 rfl (lv_room (Nat.le_of_ble_eq_true rfl)) d_B_bounds_1 ⟨Nat.zero_le _, Nat.zero_le _⟩) ?_
  refine lv_aload_n hx hb d_B_bounds_4 rfl (lv_at hl 0 rfl) ?_
  refine gf_B_10 C0 hH hB rfl d_B_bounds_5 ?_
  refine pu_v (runV C0 (k_A_isEmpty l G w hL1) (cs_B_125 C0 ⟨Nat.le_of_ble_eq_true rfl, Nat.le_of_ble_eq_true rfl⟩) hH hS (hd_recv C0.hK hH rfl hL1) rfl hl.1 rfl (lv_room (Nat.le_of_ble_eq_true rfl)) d_B_bounds_8 ⟨Nat.zero_le _, Nat.zero_le _⟩) ?_
  refine lv_if_eq (tgt := 24) hx hb d_B_bounds_11 (by decide) (fun c_11 => ?_) (fun c_11 => ?_)
  · exact absurd c_11 (by first | decide | simp [nI_0])
  · exact th_throw (text := "no boxes") hlt C0 (by decide +kernel) mw_650 mw_24 at_is og_is (by decide +kernel) hl.1 d_B_bounds_14 d_B_bounds_17 d_B_bounds_18 d_B_bounds_20 d_B_bounds_23 ht (by decide)
