/-! the law's loop -/
section LAWC
variable {p : Program} {l : Launch} {e : Env} {R : Room} {s : State} {m : MethodId} {args : Array Value} {below : List Frame} {meth : Method} {c : Code} {H : Heap} {locs : List Loc} {cells slots : Nat} {Q : State → Prop}
variable {G : Gl} {w : World} {cc bytes : ByteArray} {nL maxL index n k mc ms : Nat} {own : String} {y : MethodName} {ret : Option FieldType} {hh : List (Nat × Nat × Nat × Nat)} {ws : List Cond} {As rest st0 : List Value} {pc : Nat} {ls : Array Slot}
variable {Qc : Array Value → State → Outcome → State → Prop} {free : Addr → Prop}
theorem csW (C0 : Cx G p s m args c cc nL own meth) (h1 : Cond.codeWith y bytes maxL ret hh ∈ big) (h2 : Cond.methodLink own index y ∈ big) (h3 : Cond.static y ∈ big) (h5 : Cond.initialized y.cls ∈ big)
    (hd : y.cls ≠ "java/lang/invoke/MethodHandle" ∧ y.cls ≠ "java/lang/invoke/VarHandle" ∧ (parseMethodDescriptor y.desc).map (fun d => d.parameters.length) = some n) (hR : k + 1 ≤ R.frames ∧ 8 + (maxL + 11) + 40 * k ≤ R.locals) :
    vx_CSW R s args own index y bytes maxL ret hh (.codeWith y bytes maxL ret hh :: big) (rmK k mc ms) mc ms n := by
  refine ⟨⟨rfl, rfl, hR.1, hR.2, pay_in C0.2.2.2.2.1 (goodIn_big h1), List.mem_cons_self ..⟩, C0.2.2.2.2.1 _ h1, C0.2.2.2.2.1 _ h5, ⟨hd.1, hd.2.1⟩, fun sig h => ?_, C0.2.2.2.2.1 _ h2, C0.2.2.2.2.1 _ h3⟩
  have h2 := hd.2.2
  rw [h] at h2
  exact (Option.some.inj h2).symm
theorem runSW (C0 : Cx G p s m args c cc nL own meth) (hM : Met l y ws (rmK k mc ms) (va_Pc As (Wo G w)) Qc mc ms free) (cw : vx_CSW R s args own index y bytes maxL ret hh ws (rmK k mc ms) mc ms n) (hH : Hw G w H) (hS : va_S (gA G) s.heap H locs)
    (hn : As.length = n) (hsize : ls.size = nL) (hstack : st0 = As.reverse ++ rest) (hW : 2 * (F0 m pc ls st0).monitorRoom + (rest.map fun v => v.category).sum ≤ 8) (hdg : decode cc pc = .ok (.invokestatic index, 3)) (hf : cells + mc ≤ R.cells ∧ slots + ms ≤ R.slots) :
    va_Run p l e R s m args below meth c H locs cells slots mc ms (F0 m pc ls st0) rest (Qc As.toArray) free :=
  vx_runSW C0.fix hM cw ⟨Wo.blind, fun U hU hWU => ⟨rfl, Wo.at C0.ev hH hS hU hWU⟩⟩ rfl hn hsize hstack hW hdg hf
end LAWC
theorem end_iff {L t : Nat} (hL : L ≤ 3072) (ht : t ≤ 600) : nI L - 6 < nI (6 * t) ↔ L < 6 * t + 6 := by
  rw [Int32.lt_iff_toInt_lt, Int32.toInt_sub, nI_toInt (by omega), nI_toInt (by omega), show (6 : Int32).toInt = 6 from rfl, Int.bmod_eq_of_le (by omega) (by omega)]
  omega
theorem LI.o {G : Gl} {w : World} {x y o : Nat} {tc : Int32} {d : Nat → Int64} (h : LI G w x y o tc d) : w o = some (.inl (G.2.1.2.1, 1, .inr (.inl d))) := by
  obtain ⟨_, _, _, _, _, _, _, _, _, _, _, _, _, _, _, _, _, _, hS, _⟩ := h
  exact hS.2.2.1
theorem LI.x {G : Gl} {w : World} {x y o : Nat} {tc : Int32} {d : Nat → Int64} (h : LI G w x y o tc d) : ∃ vs : List Value, w x = some (.inr (2, vs)) := by
  obtain ⟨_, _, _, _, _, _, _, _, _, _, _, _, _, _, _, _, _, _, hS, _⟩ := h
  exact ⟨_, hS.1.1⟩
theorem LI.y {G : Gl} {w : World} {x y o : Nat} {tc : Int32} {d : Nat → Int64} (h : LI G w x y o tc d) : ∃ vs : List Value, w y = some (.inr (3, vs)) := by
  obtain ⟨_, _, _, _, _, _, _, _, _, _, _, _, _, _, _, _, _, _, hS, _⟩ := h
  exact ⟨_, hS.2.1.1⟩
theorem LI.th (l : Launch) {G : Gl} {w : World} {x y o : Nat} {tc : Int32} {d : Nat → Int64} (h : LI G w x y o tc d) : PuM l y_M_thrown ws_M_thrown 0 G w [.ref y] (some (.int tc)) := by
  obtain ⟨_, _, _, _, _, _, _, _, _, _, _, _, _, _, _, _, _, _, hS, _⟩ := h
  exact k_M_thrown l G w hS.2.1

set_option maxHeartbeats 4000000 in
set_option maxRecDepth 100000 in
theorem law_loop {p : Program} {e : Env} {s : State} {m : MethodId} {below : List Frame} {meth : Method} {c : Code} (l : Launch) (hlt : l.stackTraces = false) {G : Gl} {b L : Nat} {xs : Nat → Int32} (hL : L ≤ 3072) (C0 : Cx G p s m #[Value.ref b] c code 8 "BoxDrawerLaw" meth) (hr : meth.sig.returnType = ret) (hX : va_X b L xs s s.heap) (hbl : b < s.heap.size) (hbase : G.2.2.1 = s.heap.size) (hbA : ¬ gA G b) {x y o : Nat} : ∀ (u t : Nat), L ≤ 6 * t + u → t ≤ 513 → ∀ (w9 : World) (tc : Int32) (d : Nat → Int64) (H : Heap) (locs : List Loc) (ce sl : Nat), Hw G w9 H → va_S (gA G) s.heap H locs → LI G w9 x y o tc d → ce ≤ 20 + 260 * t → sl ≤ 25000 + 12300 * t → ∀ ls : Array Slot, lv_has ls 8 [(0, .ref b), (1, .ref x), (2, .ref y), (3, .ref o), (4, .int (nI (6 * t)))] → W p l e room_1 s m #[Value.ref b] below meth c H locs ce sl (lw_Z below #[Value.ref b] s) (F0 m 23 ls []) := by
  have hx := C0.1
  have hb := C0.2.1
  intro u
  induction u with
  | zero =>
    intro t hu ht w9 tc d H locs ce sl hH hS hI9 hce hsl ls hl
    refine lv_iload hx hb d_L_law_23 (lv_at hl 4 rfl) ?_
    refine lv_aload_n hx hb d_L_law_25 rfl (lv_at hl 0 rfl) ?_
    refine va_slen hx hb hX hbl hbA hS d_L_law_26 ?_
    refine lv_bipush (v := 6) hx hb d_L_law_27 (by decide) ?_
    refine lv_isub hx hb d_L_law_29 ?_
    refine lv_icmp_gt (tgt := 774) hx hb d_L_law_30 (by decide) (fun c_30 => ?_) (fun c_30 => ?_)
    · refine lv_iconst (v := 1) hx hb d_L_law_774 (by decide) ?_
      refine va_forget (fun q hq => hbase ▸ hS.2.2 q hq) ?_
      refine W.widen (k := 601024) (n := 7293034) (by omega) (by omega) ?_
      exact lw_ret hx hb hr C0.2.2.2.2.2.2 d_L_law_775
    · exact absurd ((end_iff hL (by omega)).mpr (by omega)) c_30
  | succ u ih =>
    intro t hu ht w9 tc d H locs ce sl hH hS hI9 hce hsl ls hl
    refine lv_iload hx hb d_L_law_23 (lv_at hl 4 rfl) ?_
    refine lv_aload_n hx hb d_L_law_25 rfl (lv_at hl 0 rfl) ?_
    refine va_slen hx hb hX hbl hbA hS d_L_law_26 ?_
    refine lv_bipush (v := 6) hx hb d_L_law_27 (by decide) ?_
    refine lv_isub hx hb d_L_law_29 ?_
    refine lv_icmp_gt (tgt := 774) hx hb d_L_law_30 (by decide) (fun c_30 => ?_) (fun c_30 => ?_)
    · refine lv_iconst (v := 1) hx hb d_L_law_774 (by decide) ?_
      refine va_forget (fun q hq => hbase ▸ hS.2.2 q hq) ?_
      refine W.widen (k := 601024) (n := 7293034) (by omega) (by omega) ?_
      exact lw_ret hx hb hr C0.2.2.2.2.2.2 d_L_law_775
    · have hlt9 : 6 * t + 6 ≤ L := Nat.le_of_not_lt (fun h => c_30 ((end_iff hL (by omega)).mpr h))
      refine lv_aload_n hx hb d_L_law_33 rfl (lv_at hl 0 rfl) ?_
      refine lv_iload hx hb d_L_law_34 (lv_at hl 4 rfl) ?_
      refine va_sld hx hb hX hbl hbA hS (vp_in_nI (by omega) (by omega)) d_L_law_36 ?_
      rw [nI_clamp (by omega)]
      refine lv_bipush (v := 15) hx hb d_L_law_37 (by decide) ?_
      refine lv_iand hx hb d_L_law_39 ?_
      obtain ⟨v, hv⟩ : ∃ z : Int32, z = xs (6 * t) &&& 15 := ⟨_, rfl⟩
      rw [← hv]
      by_cases h0 : v = 0
      · rw [h0]
        refine lv_tableIn (off := 60) (tgt := 100) hx hb d_L_law_40 (by decide) (by decide) (by decide) (by decide) ?_
        refine lv_aload_n hx hb d_L_law_100 rfl (lv_at hl 1 rfl) ?_
        refine lv_aload_n hx hb d_L_law_101 rfl (lv_at hl 0 rfl) ?_
        refine lv_iload hx hb d_L_law_102 (lv_at hl 4 rfl) ?_
        refine lv_iconst (v := 1) hx hb d_L_law_104 (by decide) ?_
        refine lv_iadd hx hb d_L_law_105 ?_
        rw [show nI (6 * t) + 1 = nI (6 * t + 1) from nI_add _ 1]
        refine va_sld hx hb hX hbl hbA hS (vp_in_nI (by omega) (by omega)) d_L_law_106 ?_
        rw [nI_clamp (by omega)]
        refine lv_aload_n hx hb d_L_law_107 rfl (lv_at hl 0 rfl) ?_
        refine lv_iload hx hb d_L_law_108 (lv_at hl 4 rfl) ?_
        refine lv_iconst (v := 2) hx hb d_L_law_110 (by decide) ?_
        refine lv_iadd hx hb d_L_law_111 ?_
        rw [show nI (6 * t) + 2 = nI (6 * t + 2) from nI_add _ 2]
        refine va_sld hx hb hX hbl hbA hS (vp_in_nI (by omega) (by omega)) d_L_law_112 ?_
        rw [nI_clamp (by omega)]
        refine lv_aload_n hx hb d_L_law_113 rfl (lv_at hl 0 rfl) ?_
        refine lv_iload hx hb d_L_law_114 (lv_at hl 4 rfl) ?_
        refine lv_iconst (v := 3) hx hb d_L_law_116 (by decide) ?_
        refine lv_iadd hx hb d_L_law_117 ?_
        rw [show nI (6 * t) + 3 = nI (6 * t + 3) from nI_add _ 3]
        refine va_sld hx hb hX hbl hbA hS (vp_in_nI (by omega) (by omega)) d_L_law_118 ?_
        rw [nI_clamp (by omega)]
        refine lv_aload_n hx hb d_L_law_119 rfl (lv_at hl 0 rfl) ?_
        refine lv_iload hx hb d_L_law_120 (lv_at hl 4 rfl) ?_
        refine lv_iconst (v := 4) hx hb d_L_law_122 (by decide) ?_
        refine lv_iadd hx hb d_L_law_123 ?_
        rw [show nI (6 * t) + 4 = nI (6 * t + 4) from nI_add _ 4]
        refine va_sld hx hb hX hbl hbA hS (vp_in_nI (by omega) (by omega)) d_L_law_124 ?_
        rw [nI_clamp (by omega)]
        refine lv_aload_n hx hb d_L_law_125 rfl (lv_at hl 0 rfl) ?_
        refine lv_iload hx hb d_L_law_126 (lv_at hl 4 rfl) ?_
        refine lv_iconst (v := 5) hx hb d_L_law_128 (by decide) ?_
        refine lv_iadd hx hb d_L_law_129 ?_
        rw [show nI (6 * t) + 5 = nI (6 * t + 5) from nI_add _ 5]
        refine va_sld hx hb hX hbl hbA hS (vp_in_nI (by omega) (by omega)) d_L_law_130 ?_
        rw [nI_clamp (by omega)]
        refine lv_aload_n hx hb d_L_law_131 rfl (lv_at hl 3 rfl) ?_
        obtain ⟨mc, ms, P, hmc, hms, hG, hN⟩ := st_put l hlt G w9 hI9 (ge0_none C0 hH) (xs (6 * t + 1)) (xs (6 * t + 2)) (xs (6 * t + 3)) (xs (6 * t + 4)) (xs (6 * t + 5))
        refine gn_i (runSW C0 hG (csW (n := 7) C0 mw_144 mw_142 mw_143 mw_0 (by decide +kernel) ⟨(Nat.le_of_ble_eq_true rfl), (Nat.le_of_ble_eq_true rfl)⟩) hH hS rfl hl.1 rfl (lv_room (Nat.le_of_ble_eq_true rfl)) d_L_law_132 ⟨by show _ ≤ 601024; omega, by show _ ≤ 7293034; omega⟩) hS (fun r5 w1 H locs hp1 hH hS => ?_)
        obtain ⟨vs1, P2, hy1, hG2, hN2⟩ := hN _ _ hp1
        refine lv_istore (lv' := [(5, .int r5), (0, .ref b), (1, .ref x), (2, .ref y), (3, .ref o), (4, .int (nI (6 * t)))]) hx hb d_L_law_135 hl (by decide) rfl (fun ls hl => ?_)
        refine lv_aload_n hx hb d_L_law_137 rfl (lv_at hl 3 rfl) ?_
        refine lv_aload_n hx hb d_L_law_138 rfl (lv_at hl 1 rfl) ?_
        refine lv_iload hx hb d_L_law_139 (lv_at hl 5 rfl) ?_
        refine lv_iconst (v := 1) hx hb d_L_law_141 (by decide) ?_
        refine lv_iadd hx hb d_L_law_142 ?_
        rw [show nI (6 * t) + 1 = nI (6 * t + 1) from nI_add _ 1]
        refine va_sld hx hb hX hbl hbA hS (vp_in_nI (by omega) (by omega)) d_L_law_143 ?_
        rw [nI_clamp (by omega)]
        refine lv_aload_n hx hb d_L_law_144 rfl (lv_at hl 1 rfl) ?_
        refine lv_iload hx hb d_L_law_145 (lv_at hl 5 rfl) ?_
        refine lv_iconst (v := 2) hx hb d_L_law_147 (by decide) ?_
        refine lv_iadd hx hb d_L_law_148 ?_
        rw [show nI (6 * t) + 2 = nI (6 * t + 2) from nI_add _ 2]
        refine va_sld hx hb hX hbl hbA hS (vp_in_nI (by omega) (by omega)) d_L_law_149 ?_
        rw [nI_clamp (by omega)]
        refine lv_aload_n hx hb d_L_law_150 rfl (lv_at hl 1 rfl) ?_
        refine lv_iload hx hb d_L_law_151 (lv_at hl 5 rfl) ?_
        refine lv_iconst (v := 3) hx hb d_L_law_153 (by decide) ?_
        refine lv_iadd hx hb d_L_law_154 ?_
        rw [show nI (6 * t) + 3 = nI (6 * t + 3) from nI_add _ 3]
        refine va_sld hx hb hX hbl hbA hS (vp_in_nI (by omega) (by omega)) d_L_law_155 ?_
        rw [nI_clamp (by omega)]
        refine lv_aload_n hx hb d_L_law_156 rfl (lv_at hl 1 rfl) ?_
        refine lv_iload hx hb d_L_law_157 (lv_at hl 5 rfl) ?_
        refine lv_iconst (v := 4) hx hb d_L_law_159 (by decide) ?_
        refine lv_iadd hx hb d_L_law_160 ?_
        rw [show nI (6 * t) + 4 = nI (6 * t + 4) from nI_add _ 4]
        refine va_sld hx hb hX hbl hbA hS (vp_in_nI (by omega) (by omega)) d_L_law_161 ?_
        rw [nI_clamp (by omega)]
        refine lv_aload_n hx hb d_L_law_162 rfl (lv_at hl 1 rfl) ?_
        refine lv_iload hx hb d_L_law_163 (lv_at hl 5 rfl) ?_
        refine lv_iconst (v := 5) hx hb d_L_law_165 (by decide) ?_
        refine lv_iadd hx hb d_L_law_166 ?_
        rw [show nI (6 * t) + 5 = nI (6 * t + 5) from nI_add _ 5]
        refine va_sld hx hb hX hbl hbA hS (vp_in_nI (by omega) (by omega)) d_L_law_167 ?_
        rw [nI_clamp (by omega)]
        refine gn_i (runV C0 hG2 (cs_L_55 C0 ⟨(Nat.le_of_ble_eq_true rfl), (Nat.le_of_ble_eq_true rfl)⟩) hH hS (hd_recv C0.hK hH rfl hy1) rfl hl.1 rfl (lv_room (Nat.le_of_ble_eq_true rfl)) d_L_law_168 ⟨by show _ ≤ 601024; omega, by show _ ≤ 7293034; omega⟩) hS (fun r6 w2 H locs hp2 hH hS => ?_)
        obtain ⟨d2, hL2, hv2⟩ := hN2 _ _ hp2
        refine lv_istore (lv' := [(6, .int r6), (5, .int r5), (0, .ref b), (1, .ref x), (2, .ref y), (3, .ref o), (4, .int (nI (6 * t)))]) hx hb d_L_law_171 hl (by decide) rfl (fun ls hl => ?_)
        refine lv_aload_n hx hb d_L_law_173 rfl (lv_at hl 4 rfl) ?_
        obtain ⟨vs2, hy2⟩ := hL2.y
        refine pu_v (runV C0 (hL2.th l) (cs_L_56 C0 ⟨(Nat.le_of_ble_eq_true rfl), (Nat.le_of_ble_eq_true rfl)⟩) hH hS (hd_recv C0.hK hH rfl hy2) rfl hl.1 rfl (lv_room (Nat.le_of_ble_eq_true rfl)) d_L_law_174 ⟨by show _ ≤ 601024; omega, by show _ ≤ 7293034; omega⟩) ?_
        refine lv_iload hx hb d_L_law_177 (lv_at hl 1 rfl) ?_
        refine lv_icmp_eq (tgt := 184) hx hb d_L_law_179 (by decide) (fun c_179 => ?_) (fun c_179 => ?_)
        · refine lv_iload hx hb d_L_law_184 (lv_at hl 1 rfl) ?_
          refine lv_if_ne (tgt := 208) hx hb d_L_law_186 (by decide) (fun c_186 => ?_) (fun c_186 => ?_)
          · refine lv_goto (tgt := 768) hx hb d_L_law_208 (by decide) ?_
            obtain ⟨y_1, ey_1⟩ : ∃ z : Int32, z = (nI (6 * t)) + 6 := ⟨_, rfl⟩
            refine lv_iinc (v := y_1) (lv' := [(4, .int y_1), (6, .int r6), (5, .int r5), (0, .ref b), (1, .ref x), (2, .ref y), (3, .ref o)]) hx hb d_L_law_768 hl (k := 6) rfl (by rw [ey_1]; rfl) (by decide) rfl (fun ls hl => ?_)
            refine lv_goto (tgt := 23) hx hb d_L_law_771 (by decide) ?_
            rw [show y_1 = nI (6 * (t + 1)) from by rw [ey_1, show 6 * (t + 1) = 6 * t + 6 by omega]; exact nI_add _ 6] at hl
            exact ih (t + 1) (by omega) (by omega) w2 _ d2 H locs _ _ hH hS hL2 (by omega) (by omega) ls (lv_sub hl [3, 4, 5, 6, 0] rfl)
          · refine lv_aload_n hx hb d_L_law_189 rfl (lv_at hl 5 rfl) ?_
            refine lv_iconst (v := 0) hx hb d_L_law_190 (by decide) ?_
            have hv3 := hv2 c_186
            refine hd_lald hx hb C0.hK hH 1 hL2.o rfl (show vp_in (nI 0) 1 from vp_in_nI (by decide) (by decide)) d_L_law_191 ?_
            rw [sb_cl0]
            refine lv_iload hx hb d_L_law_192 (lv_at hl 0 rfl) ?_
            refine lv_if_eq (tgt := 201) hx hb d_L_law_194 (by decide) (fun c_194 => ?_) (fun c_194 => ?_)
            · refine lv_lconst (v := 0) hx hb d_L_law_201 (by decide) ?_
              rw [if_pos c_194] at hv3
              refine W.lcmp hx hb d_L_law_202 ?_
              refine lv_if_eq (tgt := 208) hx hb d_L_law_203 (by decide) (fun c_203 => ?_) (fun c_203 => ?_)
              · refine lv_goto (tgt := 768) hx hb d_L_law_208 (by decide) ?_
                obtain ⟨y_2, ey_2⟩ : ∃ z : Int32, z = (nI (6 * t)) + 6 := ⟨_, rfl⟩
                refine lv_iinc (v := y_2) (lv' := [(4, .int y_2), (6, .int r6), (5, .int r5), (0, .ref b), (1, .ref x), (2, .ref y), (3, .ref o)]) hx hb d_L_law_768 hl (k := 6) rfl (by rw [ey_2]; rfl) (by decide) rfl (fun ls hl => ?_)
                refine lv_goto (tgt := 23) hx hb d_L_law_771 (by decide) ?_
                rw [show y_2 = nI (6 * (t + 1)) from by rw [ey_2, show 6 * (t + 1) = 6 * t + 6 by omega]; exact nI_add _ 6] at hl
                exact ih (t + 1) (by omega) (by omega) w2 _ d2 H locs _ _ hH hS hL2 (by omega) (by omega) ls (lv_sub hl [3, 4, 5, 6, 0] rfl)
              · exact absurd ((lg_cmp_eq _ _).mpr hv3) c_203
            · refine lv_lconst (v := 1) hx hb d_L_law_197 (by decide) ?_
              refine lv_goto (tgt := 202) hx hb d_L_law_198 (by decide) ?_
              rw [if_neg c_194] at hv3
              refine W.lcmp hx hb d_L_law_202 ?_
              refine lv_if_eq (tgt := 208) hx hb d_L_law_203 (by decide) (fun c_203 => ?_) (fun c_203 => ?_)
              · refine lv_goto (tgt := 768) hx hb d_L_law_208 (by decide) ?_
                obtain ⟨y_3, ey_3⟩ : ∃ z : Int32, z = (nI (6 * t)) + 6 := ⟨_, rfl⟩
                refine lv_iinc (v := y_3) (lv' := [(4, .int y_3), (6, .int r6), (5, .int r5), (0, .ref b), (1, .ref x), (2, .ref y), (3, .ref o)]) hx hb d_L_law_768 hl (k := 6) rfl (by rw [ey_3]; rfl) (by decide) rfl (fun ls hl => ?_)
                refine lv_goto (tgt := 23) hx hb d_L_law_771 (by decide) ?_
                rw [show y_3 = nI (6 * (t + 1)) from by rw [ey_3, show 6 * (t + 1) = 6 * t + 6 by omega]; exact nI_add _ 6] at hl
                exact ih (t + 1) (by omega) (by omega) w2 _ d2 H locs _ _ hH hS hL2 (by omega) (by omega) ls (lv_sub hl [3, 4, 5, 6, 0] rfl)
              · exact absurd ((lg_cmp_eq _ _).mpr hv3) c_203
        · exact absurd rfl c_179
      by_cases h1 : v = 1
      · rw [h1]
        refine lv_tableIn (off := 171) (tgt := 211) hx hb d_L_law_40 (by decide) (by decide) (by decide) (by decide) ?_
        refine lv_aload_n hx hb d_L_law_211 rfl (lv_at hl 1 rfl) ?_
        refine lv_aload_n hx hb d_L_law_212 rfl (lv_at hl 0 rfl) ?_
        refine lv_iload hx hb d_L_law_213 (lv_at hl 4 rfl) ?_
        refine lv_iconst (v := 1) hx hb d_L_law_215 (by decide) ?_
        refine lv_iadd hx hb d_L_law_216 ?_
        rw [show nI (6 * t) + 1 = nI (6 * t + 1) from nI_add _ 1]
        refine va_sld hx hb hX hbl hbA hS (vp_in_nI (by omega) (by omega)) d_L_law_217 ?_
        rw [nI_clamp (by omega)]
        refine lv_aload_n hx hb d_L_law_218 rfl (lv_at hl 3 rfl) ?_
        obtain ⟨mc, ms, P, hmc, hms, hG, hN⟩ := st_take l hlt G w9 hI9 (ge0_none C0 hH) (xs (6 * t + 1))
        refine gn_i (runSW C0 hG (csW (n := 3) C0 mw_566 mw_564 mw_565 mw_0 (by decide +kernel) ⟨(Nat.le_of_ble_eq_true rfl), (Nat.le_of_ble_eq_true rfl)⟩) hH hS rfl hl.1 rfl (lv_room (Nat.le_of_ble_eq_true rfl)) d_L_law_219 ⟨by show _ ≤ 601024; omega, by show _ ≤ 7293034; omega⟩) hS (fun r5 w1 H locs hp1 hH hS => ?_)
        obtain ⟨vs1, P2, hy1, hG2, hN2⟩ := hN _ _ hp1
        refine lv_istore (lv' := [(5, .int r5), (0, .ref b), (1, .ref x), (2, .ref y), (3, .ref o), (4, .int (nI (6 * t)))]) hx hb d_L_law_222 hl (by decide) rfl (fun ls hl => ?_)
        refine lv_aload_n hx hb d_L_law_224 rfl (lv_at hl 3 rfl) ?_
        refine lv_aload_n hx hb d_L_law_225 rfl (lv_at hl 1 rfl) ?_
        refine lv_iload hx hb d_L_law_226 (lv_at hl 5 rfl) ?_
        refine lv_iconst (v := 1) hx hb d_L_law_228 (by decide) ?_
        refine lv_iadd hx hb d_L_law_229 ?_
        rw [show nI (6 * t) + 1 = nI (6 * t + 1) from nI_add _ 1]
        refine va_sld hx hb hX hbl hbA hS (vp_in_nI (by omega) (by omega)) d_L_law_230 ?_
        rw [nI_clamp (by omega)]
        refine gn_i (runV C0 hG2 (cs_L_63 C0 ⟨(Nat.le_of_ble_eq_true rfl), (Nat.le_of_ble_eq_true rfl)⟩) hH hS (hd_recv C0.hK hH rfl hy1) rfl hl.1 rfl (lv_room (Nat.le_of_ble_eq_true rfl)) d_L_law_231 ⟨by show _ ≤ 601024; omega, by show _ ≤ 7293034; omega⟩) hS (fun r6 w2 H locs hp2 hH hS => ?_)
        obtain ⟨d2, hL2, hv2⟩ := hN2 _ _ hp2
        refine lv_istore (lv' := [(6, .int r6), (5, .int r5), (0, .ref b), (1, .ref x), (2, .ref y), (3, .ref o), (4, .int (nI (6 * t)))]) hx hb d_L_law_234 hl (by decide) rfl (fun ls hl => ?_)
        refine lv_aload_n hx hb d_L_law_236 rfl (lv_at hl 4 rfl) ?_
        obtain ⟨vs2, hy2⟩ := hL2.y
        refine pu_v (runV C0 (hL2.th l) (cs_L_56 C0 ⟨(Nat.le_of_ble_eq_true rfl), (Nat.le_of_ble_eq_true rfl)⟩) hH hS (hd_recv C0.hK hH rfl hy2) rfl hl.1 rfl (lv_room (Nat.le_of_ble_eq_true rfl)) d_L_law_237 ⟨by show _ ≤ 601024; omega, by show _ ≤ 7293034; omega⟩) ?_
        refine lv_iload hx hb d_L_law_240 (lv_at hl 1 rfl) ?_
        refine lv_icmp_eq (tgt := 247) hx hb d_L_law_242 (by decide) (fun c_242 => ?_) (fun c_242 => ?_)
        · refine lv_iload hx hb d_L_law_247 (lv_at hl 1 rfl) ?_
          refine lv_if_ne (tgt := 271) hx hb d_L_law_249 (by decide) (fun c_249 => ?_) (fun c_249 => ?_)
          · refine lv_goto (tgt := 768) hx hb d_L_law_271 (by decide) ?_
            obtain ⟨y_4, ey_4⟩ : ∃ z : Int32, z = (nI (6 * t)) + 6 := ⟨_, rfl⟩
            refine lv_iinc (v := y_4) (lv' := [(4, .int y_4), (6, .int r6), (5, .int r5), (0, .ref b), (1, .ref x), (2, .ref y), (3, .ref o)]) hx hb d_L_law_768 hl (k := 6) rfl (by rw [ey_4]; rfl) (by decide) rfl (fun ls hl => ?_)
            refine lv_goto (tgt := 23) hx hb d_L_law_771 (by decide) ?_
            rw [show y_4 = nI (6 * (t + 1)) from by rw [ey_4, show 6 * (t + 1) = 6 * t + 6 by omega]; exact nI_add _ 6] at hl
            exact ih (t + 1) (by omega) (by omega) w2 _ d2 H locs _ _ hH hS hL2 (by omega) (by omega) ls (lv_sub hl [3, 4, 5, 6, 0] rfl)
          · refine lv_aload_n hx hb d_L_law_252 rfl (lv_at hl 5 rfl) ?_
            refine lv_iconst (v := 0) hx hb d_L_law_253 (by decide) ?_
            have hv3 := hv2 c_249
            refine hd_lald hx hb C0.hK hH 1 hL2.o rfl (show vp_in (nI 0) 1 from vp_in_nI (by decide) (by decide)) d_L_law_254 ?_
            rw [sb_cl0]
            refine lv_iload hx hb d_L_law_255 (lv_at hl 0 rfl) ?_
            refine lv_if_eq (tgt := 264) hx hb d_L_law_257 (by decide) (fun c_257 => ?_) (fun c_257 => ?_)
            · refine lv_lconst (v := 0) hx hb d_L_law_264 (by decide) ?_
              rw [if_pos c_257] at hv3
              refine W.lcmp hx hb d_L_law_265 ?_
              refine lv_if_eq (tgt := 271) hx hb d_L_law_266 (by decide) (fun c_266 => ?_) (fun c_266 => ?_)
              · refine lv_goto (tgt := 768) hx hb d_L_law_271 (by decide) ?_
                obtain ⟨y_5, ey_5⟩ : ∃ z : Int32, z = (nI (6 * t)) + 6 := ⟨_, rfl⟩
                refine lv_iinc (v := y_5) (lv' := [(4, .int y_5), (6, .int r6), (5, .int r5), (0, .ref b), (1, .ref x), (2, .ref y), (3, .ref o)]) hx hb d_L_law_768 hl (k := 6) rfl (by rw [ey_5]; rfl) (by decide) rfl (fun ls hl => ?_)
                refine lv_goto (tgt := 23) hx hb d_L_law_771 (by decide) ?_
                rw [show y_5 = nI (6 * (t + 1)) from by rw [ey_5, show 6 * (t + 1) = 6 * t + 6 by omega]; exact nI_add _ 6] at hl
                exact ih (t + 1) (by omega) (by omega) w2 _ d2 H locs _ _ hH hS hL2 (by omega) (by omega) ls (lv_sub hl [3, 4, 5, 6, 0] rfl)
              · exact absurd ((lg_cmp_eq _ _).mpr hv3) c_266
            · refine lv_lconst (v := 1) hx hb d_L_law_260 (by decide) ?_
              refine lv_goto (tgt := 265) hx hb d_L_law_261 (by decide) ?_
              rw [if_neg c_257] at hv3
              refine W.lcmp hx hb d_L_law_265 ?_
              refine lv_if_eq (tgt := 271) hx hb d_L_law_266 (by decide) (fun c_266 => ?_) (fun c_266 => ?_)
              · refine lv_goto (tgt := 768) hx hb d_L_law_271 (by decide) ?_
                obtain ⟨y_6, ey_6⟩ : ∃ z : Int32, z = (nI (6 * t)) + 6 := ⟨_, rfl⟩
                refine lv_iinc (v := y_6) (lv' := [(4, .int y_6), (6, .int r6), (5, .int r5), (0, .ref b), (1, .ref x), (2, .ref y), (3, .ref o)]) hx hb d_L_law_768 hl (k := 6) rfl (by rw [ey_6]; rfl) (by decide) rfl (fun ls hl => ?_)
                refine lv_goto (tgt := 23) hx hb d_L_law_771 (by decide) ?_
                rw [show y_6 = nI (6 * (t + 1)) from by rw [ey_6, show 6 * (t + 1) = 6 * t + 6 by omega]; exact nI_add _ 6] at hl
                exact ih (t + 1) (by omega) (by omega) w2 _ d2 H locs _ _ hH hS hL2 (by omega) (by omega) ls (lv_sub hl [3, 4, 5, 6, 0] rfl)
              · exact absurd ((lg_cmp_eq _ _).mpr hv3) c_266
        · exact absurd rfl c_242
      by_cases h2 : v = 2
      · rw [h2]
        refine lv_tableIn (off := 234) (tgt := 274) hx hb d_L_law_40 (by decide) (by decide) (by decide) (by decide) ?_
        refine lv_aload_n hx hb d_L_law_274 rfl (lv_at hl 1 rfl) ?_
        obtain ⟨vsx, hx9⟩ := hI9.x
        obtain ⟨P, hG, hN⟩ := st_clear l G w9 hI9 (ge0_none C0 hH)
        refine gn_i (runV C0 hG (cs_L_64 C0 ⟨(Nat.le_of_ble_eq_true rfl), (Nat.le_of_ble_eq_true rfl)⟩) hH hS (hd_recv C0.hK hH rfl hx9) rfl hl.1 rfl (lv_room (Nat.le_of_ble_eq_true rfl)) d_L_law_275 ⟨by show _ ≤ 601024; omega, by show _ ≤ 7293034; omega⟩) hS (fun v9 w1 H locs hp1 hH hS => ?_)
        obtain ⟨vs1, P2, hy1, hG2, hN2⟩ := hN _ _ hp1
        refine lv_aload_n hx hb d_L_law_278 rfl (lv_at hl 2 rfl) ?_
        refine gn_i (runV C0 hG2 (cs_L_67 C0 ⟨(Nat.le_of_ble_eq_true rfl), (Nat.le_of_ble_eq_true rfl)⟩) hH hS (hd_recv C0.hK hH rfl hy1) rfl hl.1 rfl (lv_room (Nat.le_of_ble_eq_true rfl)) d_L_law_279 ⟨by show _ ≤ 601024; omega, by show _ ≤ 7293034; omega⟩) hS (fun r6 w2 H locs hp2 hH hS => ?_)
        obtain ⟨hr6, hL2⟩ := hN2 _ _ hp2
        refine lv_icmp_eq (tgt := 768) hx hb d_L_law_282 (by decide) (fun c_282 => ?_) (fun c_282 => ?_)
        · obtain ⟨y_7, ey_7⟩ : ∃ z : Int32, z = (nI (6 * t)) + 6 := ⟨_, rfl⟩
          refine lv_iinc (v := y_7) (lv' := [(4, .int y_7), (0, .ref b), (1, .ref x), (2, .ref y), (3, .ref o)]) hx hb d_L_law_768 hl (k := 4) rfl (by rw [ey_7]; rfl) (by decide) rfl (fun ls hl => ?_)
          refine lv_goto (tgt := 23) hx hb d_L_law_771 (by decide) ?_
          rw [show y_7 = nI (6 * (t + 1)) from by rw [ey_7, show 6 * (t + 1) = 6 * t + 6 by omega]; exact nI_add _ 6] at hl
          exact ih (t + 1) (by omega) (by omega) w2 _ d H locs _ _ hH hS hL2 (by omega) (by omega) ls (lv_sub hl [1, 2, 3, 4, 0] rfl)
        · exact absurd hr6 c_282
      by_cases h3 : v = 3
      · rw [h3]
        refine lv_tableIn (off := 247) (tgt := 287) hx hb d_L_law_40 (by decide) (by decide) (by decide) (by decide) ?_
        refine lv_aload_n hx hb d_L_law_287 rfl (lv_at hl 1 rfl) ?_
        refine lv_aload_n hx hb d_L_law_288 rfl (lv_at hl 0 rfl) ?_
        refine lv_iload hx hb d_L_law_289 (lv_at hl 4 rfl) ?_
        refine lv_iconst (v := 1) hx hb d_L_law_291 (by decide) ?_
        refine lv_iadd hx hb d_L_law_292 ?_
        rw [show nI (6 * t) + 1 = nI (6 * t + 1) from nI_add _ 1]
        refine va_sld hx hb hX hbl hbA hS (vp_in_nI (by omega) (by omega)) d_L_law_293 ?_
        rw [nI_clamp (by omega)]
        refine lv_aload_n hx hb d_L_law_294 rfl (lv_at hl 0 rfl) ?_
        refine lv_iload hx hb d_L_law_295 (lv_at hl 4 rfl) ?_
        refine lv_iconst (v := 2) hx hb d_L_law_297 (by decide) ?_
        refine lv_iadd hx hb d_L_law_298 ?_
        rw [show nI (6 * t) + 2 = nI (6 * t + 2) from nI_add _ 2]
        refine va_sld hx hb hX hbl hbA hS (vp_in_nI (by omega) (by omega)) d_L_law_299 ?_
        rw [nI_clamp (by omega)]
        refine lv_aload_n hx hb d_L_law_300 rfl (lv_at hl 0 rfl) ?_
        refine lv_iload hx hb d_L_law_301 (lv_at hl 4 rfl) ?_
        refine lv_iconst (v := 3) hx hb d_L_law_303 (by decide) ?_
        refine lv_iadd hx hb d_L_law_304 ?_
        rw [show nI (6 * t) + 3 = nI (6 * t + 3) from nI_add _ 3]
        refine va_sld hx hb hX hbl hbA hS (vp_in_nI (by omega) (by omega)) d_L_law_305 ?_
        rw [nI_clamp (by omega)]
        refine lv_aload_n hx hb d_L_law_306 rfl (lv_at hl 0 rfl) ?_
        refine lv_iload hx hb d_L_law_307 (lv_at hl 4 rfl) ?_
        refine lv_iconst (v := 4) hx hb d_L_law_309 (by decide) ?_
        refine lv_iadd hx hb d_L_law_310 ?_
        rw [show nI (6 * t) + 4 = nI (6 * t + 4) from nI_add _ 4]
        refine va_sld hx hb hX hbl hbA hS (vp_in_nI (by omega) (by omega)) d_L_law_311 ?_
        rw [nI_clamp (by omega)]
        refine lv_aload_n hx hb d_L_law_312 rfl (lv_at hl 0 rfl) ?_
        refine lv_iload hx hb d_L_law_313 (lv_at hl 4 rfl) ?_
        refine lv_iconst (v := 5) hx hb d_L_law_315 (by decide) ?_
        refine lv_iadd hx hb d_L_law_316 ?_
        rw [show nI (6 * t) + 5 = nI (6 * t + 5) from nI_add _ 5]
        refine va_sld hx hb hX hbl hbA hS (vp_in_nI (by omega) (by omega)) d_L_law_317 ?_
        rw [nI_clamp (by omega)]
        refine lv_aload_n hx hb d_L_law_318 rfl (lv_at hl 3 rfl) ?_
        obtain ⟨mc, ms, P, hmc, hms, hG, hN⟩ := st_find l hlt G w9 hI9 (ge0_none C0 hH) (xs (6 * t + 1)) (xs (6 * t + 2)) (xs (6 * t + 3)) (xs (6 * t + 4)) (xs (6 * t + 5))
        refine gn_i (runSW C0 hG (csW (n := 7) C0 mw_581 mw_579 mw_580 mw_0 (by decide +kernel) ⟨(Nat.le_of_ble_eq_true rfl), (Nat.le_of_ble_eq_true rfl)⟩) hH hS rfl hl.1 rfl (lv_room (Nat.le_of_ble_eq_true rfl)) d_L_law_319 ⟨by show _ ≤ 601024; omega, by show _ ≤ 7293034; omega⟩) hS (fun r5 w1 H locs hp1 hH hS => ?_)
        obtain ⟨vs1, P2, hy1, hG2, hN2⟩ := hN _ _ hp1
        refine lv_istore (lv' := [(5, .int r5), (0, .ref b), (1, .ref x), (2, .ref y), (3, .ref o), (4, .int (nI (6 * t)))]) hx hb d_L_law_322 hl (by decide) rfl (fun ls hl => ?_)
        refine lv_aload_n hx hb d_L_law_324 rfl (lv_at hl 3 rfl) ?_
        refine lv_aload_n hx hb d_L_law_325 rfl (lv_at hl 1 rfl) ?_
        refine lv_iload hx hb d_L_law_326 (lv_at hl 5 rfl) ?_
        refine lv_iconst (v := 1) hx hb d_L_law_328 (by decide) ?_
        refine lv_iadd hx hb d_L_law_329 ?_
        rw [show nI (6 * t) + 1 = nI (6 * t + 1) from nI_add _ 1]
        refine va_sld hx hb hX hbl hbA hS (vp_in_nI (by omega) (by omega)) d_L_law_330 ?_
        rw [nI_clamp (by omega)]
        refine lv_aload_n hx hb d_L_law_331 rfl (lv_at hl 1 rfl) ?_
        refine lv_iload hx hb d_L_law_332 (lv_at hl 5 rfl) ?_
        refine lv_iconst (v := 2) hx hb d_L_law_334 (by decide) ?_
        refine lv_iadd hx hb d_L_law_335 ?_
        rw [show nI (6 * t) + 2 = nI (6 * t + 2) from nI_add _ 2]
        refine va_sld hx hb hX hbl hbA hS (vp_in_nI (by omega) (by omega)) d_L_law_336 ?_
        rw [nI_clamp (by omega)]
        refine lv_aload_n hx hb d_L_law_337 rfl (lv_at hl 1 rfl) ?_
        refine lv_iload hx hb d_L_law_338 (lv_at hl 5 rfl) ?_
        refine lv_iconst (v := 3) hx hb d_L_law_340 (by decide) ?_
        refine lv_iadd hx hb d_L_law_341 ?_
        rw [show nI (6 * t) + 3 = nI (6 * t + 3) from nI_add _ 3]
        refine va_sld hx hb hX hbl hbA hS (vp_in_nI (by omega) (by omega)) d_L_law_342 ?_
        rw [nI_clamp (by omega)]
        refine lv_aload_n hx hb d_L_law_343 rfl (lv_at hl 1 rfl) ?_
        refine lv_iload hx hb d_L_law_344 (lv_at hl 5 rfl) ?_
        refine lv_iconst (v := 4) hx hb d_L_law_346 (by decide) ?_
        refine lv_iadd hx hb d_L_law_347 ?_
        rw [show nI (6 * t) + 4 = nI (6 * t + 4) from nI_add _ 4]
        refine va_sld hx hb hX hbl hbA hS (vp_in_nI (by omega) (by omega)) d_L_law_348 ?_
        rw [nI_clamp (by omega)]
        refine lv_aload_n hx hb d_L_law_349 rfl (lv_at hl 1 rfl) ?_
        refine lv_iload hx hb d_L_law_350 (lv_at hl 5 rfl) ?_
        refine lv_iconst (v := 5) hx hb d_L_law_352 (by decide) ?_
        refine lv_iadd hx hb d_L_law_353 ?_
        rw [show nI (6 * t) + 5 = nI (6 * t + 5) from nI_add _ 5]
        refine va_sld hx hb hX hbl hbA hS (vp_in_nI (by omega) (by omega)) d_L_law_354 ?_
        rw [nI_clamp (by omega)]
        refine gn_i (runV C0 hG2 (cs_L_70 C0 ⟨(Nat.le_of_ble_eq_true rfl), (Nat.le_of_ble_eq_true rfl)⟩) hH hS (hd_recv C0.hK hH rfl hy1) rfl hl.1 rfl (lv_room (Nat.le_of_ble_eq_true rfl)) d_L_law_355 ⟨by show _ ≤ 601024; omega, by show _ ≤ 7293034; omega⟩) hS (fun r6 w2 H locs hp2 hH hS => ?_)
        obtain ⟨d2, hL2, hv2⟩ := hN2 _ _ hp2
        refine lv_istore (lv' := [(6, .int r6), (5, .int r5), (0, .ref b), (1, .ref x), (2, .ref y), (3, .ref o), (4, .int (nI (6 * t)))]) hx hb d_L_law_358 hl (by decide) rfl (fun ls hl => ?_)
        refine lv_aload_n hx hb d_L_law_360 rfl (lv_at hl 4 rfl) ?_
        obtain ⟨vs2, hy2⟩ := hL2.y
        refine pu_v (runV C0 (hL2.th l) (cs_L_56 C0 ⟨(Nat.le_of_ble_eq_true rfl), (Nat.le_of_ble_eq_true rfl)⟩) hH hS (hd_recv C0.hK hH rfl hy2) rfl hl.1 rfl (lv_room (Nat.le_of_ble_eq_true rfl)) d_L_law_361 ⟨by show _ ≤ 601024; omega, by show _ ≤ 7293034; omega⟩) ?_
        refine lv_iload hx hb d_L_law_364 (lv_at hl 1 rfl) ?_
        refine lv_icmp_eq (tgt := 371) hx hb d_L_law_366 (by decide) (fun c_366 => ?_) (fun c_366 => ?_)
        · refine lv_iload hx hb d_L_law_371 (lv_at hl 1 rfl) ?_
          refine lv_if_ne (tgt := 388) hx hb d_L_law_373 (by decide) (fun c_373 => ?_) (fun c_373 => ?_)
          · refine lv_goto (tgt := 768) hx hb d_L_law_388 (by decide) ?_
            obtain ⟨y_8, ey_8⟩ : ∃ z : Int32, z = (nI (6 * t)) + 6 := ⟨_, rfl⟩
            refine lv_iinc (v := y_8) (lv' := [(4, .int y_8), (6, .int r6), (5, .int r5), (0, .ref b), (1, .ref x), (2, .ref y), (3, .ref o)]) hx hb d_L_law_768 hl (k := 6) rfl (by rw [ey_8]; rfl) (by decide) rfl (fun ls hl => ?_)
            refine lv_goto (tgt := 23) hx hb d_L_law_771 (by decide) ?_
            rw [show y_8 = nI (6 * (t + 1)) from by rw [ey_8, show 6 * (t + 1) = 6 * t + 6 by omega]; exact nI_add _ 6] at hl
            exact ih (t + 1) (by omega) (by omega) w2 _ d2 H locs _ _ hH hS hL2 (by omega) (by omega) ls (lv_sub hl [3, 4, 5, 6, 0] rfl)
          · refine lv_aload_n hx hb d_L_law_376 rfl (lv_at hl 5 rfl) ?_
            refine lv_iconst (v := 0) hx hb d_L_law_377 (by decide) ?_
            have hv3 := hv2 c_373
            refine hd_lald hx hb C0.hK hH 1 hL2.o rfl (show vp_in (nI 0) 1 from vp_in_nI (by decide) (by decide)) d_L_law_378 ?_
            rw [sb_cl0]
            refine lv_iload hx hb d_L_law_379 (lv_at hl 0 rfl) ?_
            refine lv_i2l hx hb d_L_law_381 rfl ?_
            refine W.lcmp hx hb d_L_law_382 ?_
            refine lv_if_eq (tgt := 388) hx hb d_L_law_383 (by decide) (fun c_383 => ?_) (fun c_383 => ?_)
            · refine lv_goto (tgt := 768) hx hb d_L_law_388 (by decide) ?_
              obtain ⟨y_9, ey_9⟩ : ∃ z : Int32, z = (nI (6 * t)) + 6 := ⟨_, rfl⟩
              refine lv_iinc (v := y_9) (lv' := [(4, .int y_9), (6, .int r6), (5, .int r5), (0, .ref b), (1, .ref x), (2, .ref y), (3, .ref o)]) hx hb d_L_law_768 hl (k := 6) rfl (by rw [ey_9]; rfl) (by decide) rfl (fun ls hl => ?_)
              refine lv_goto (tgt := 23) hx hb d_L_law_771 (by decide) ?_
              rw [show y_9 = nI (6 * (t + 1)) from by rw [ey_9, show 6 * (t + 1) = 6 * t + 6 by omega]; exact nI_add _ 6] at hl
              exact ih (t + 1) (by omega) (by omega) w2 _ d2 H locs _ _ hH hS hL2 (by omega) (by omega) ls (lv_sub hl [3, 4, 5, 6, 0] rfl)
            · exact absurd ((lg_cmp_eq _ _).mpr hv3) c_383
        · exact absurd rfl c_366
      by_cases h4 : v = 4
      · rw [h4]
        refine lv_tableIn (off := 351) (tgt := 391) hx hb d_L_law_40 (by decide) (by decide) (by decide) (by decide) ?_
        refine lv_aload_n hx hb d_L_law_391 rfl (lv_at hl 1 rfl) ?_
        refine lv_aload_n hx hb d_L_law_392 rfl (lv_at hl 0 rfl) ?_
        refine lv_iload hx hb d_L_law_393 (lv_at hl 4 rfl) ?_
        refine lv_iconst (v := 1) hx hb d_L_law_395 (by decide) ?_
        refine lv_iadd hx hb d_L_law_396 ?_
        rw [show nI (6 * t) + 1 = nI (6 * t + 1) from nI_add _ 1]
        refine va_sld hx hb hX hbl hbA hS (vp_in_nI (by omega) (by omega)) d_L_law_397 ?_
        rw [nI_clamp (by omega)]
        refine lv_aload_n hx hb d_L_law_398 rfl (lv_at hl 0 rfl) ?_
        refine lv_iload hx hb d_L_law_399 (lv_at hl 4 rfl) ?_
        refine lv_iconst (v := 2) hx hb d_L_law_401 (by decide) ?_
        refine lv_iadd hx hb d_L_law_402 ?_
        rw [show nI (6 * t) + 2 = nI (6 * t + 2) from nI_add _ 2]
        refine va_sld hx hb hX hbl hbA hS (vp_in_nI (by omega) (by omega)) d_L_law_403 ?_
        rw [nI_clamp (by omega)]
        refine lv_aload_n hx hb d_L_law_404 rfl (lv_at hl 0 rfl) ?_
        refine lv_iload hx hb d_L_law_405 (lv_at hl 4 rfl) ?_
        refine lv_iconst (v := 3) hx hb d_L_law_407 (by decide) ?_
        refine lv_iadd hx hb d_L_law_408 ?_
        rw [show nI (6 * t) + 3 = nI (6 * t + 3) from nI_add _ 3]
        refine va_sld hx hb hX hbl hbA hS (vp_in_nI (by omega) (by omega)) d_L_law_409 ?_
        rw [nI_clamp (by omega)]
        refine lv_aload_n hx hb d_L_law_410 rfl (lv_at hl 3 rfl) ?_
        obtain ⟨mc, ms, P, hmc, hms, hG, hN⟩ := st_nearest l hlt G w9 hI9 (ge0_none C0 hH) (xs (6 * t + 1)) (xs (6 * t + 2)) (xs (6 * t + 3))
        refine gn_i (runSW C0 hG (csW (n := 5) C0 mw_596 mw_594 mw_595 mw_0 (by decide +kernel) ⟨(Nat.le_of_ble_eq_true rfl), (Nat.le_of_ble_eq_true rfl)⟩) hH hS rfl hl.1 rfl (lv_room (Nat.le_of_ble_eq_true rfl)) d_L_law_411 ⟨by show _ ≤ 601024; omega, by show _ ≤ 7293034; omega⟩) hS (fun r5 w1 H locs hp1 hH hS => ?_)
        obtain ⟨vs1, P2, hy1, hG2, hN2⟩ := hN _ _ hp1
        refine lv_istore (lv' := [(5, .int r5), (0, .ref b), (1, .ref x), (2, .ref y), (3, .ref o), (4, .int (nI (6 * t)))]) hx hb d_L_law_414 hl (by decide) rfl (fun ls hl => ?_)
        refine lv_aload_n hx hb d_L_law_416 rfl (lv_at hl 3 rfl) ?_
        refine lv_aload_n hx hb d_L_law_417 rfl (lv_at hl 1 rfl) ?_
        refine lv_iload hx hb d_L_law_418 (lv_at hl 5 rfl) ?_
        refine lv_iconst (v := 1) hx hb d_L_law_420 (by decide) ?_
        refine lv_iadd hx hb d_L_law_421 ?_
        rw [show nI (6 * t) + 1 = nI (6 * t + 1) from nI_add _ 1]
        refine va_sld hx hb hX hbl hbA hS (vp_in_nI (by omega) (by omega)) d_L_law_422 ?_
        rw [nI_clamp (by omega)]
        refine lv_aload_n hx hb d_L_law_423 rfl (lv_at hl 1 rfl) ?_
        refine lv_iload hx hb d_L_law_424 (lv_at hl 5 rfl) ?_
        refine lv_iconst (v := 2) hx hb d_L_law_426 (by decide) ?_
        refine lv_iadd hx hb d_L_law_427 ?_
        rw [show nI (6 * t) + 2 = nI (6 * t + 2) from nI_add _ 2]
        refine va_sld hx hb hX hbl hbA hS (vp_in_nI (by omega) (by omega)) d_L_law_428 ?_
        rw [nI_clamp (by omega)]
        refine lv_aload_n hx hb d_L_law_429 rfl (lv_at hl 1 rfl) ?_
        refine lv_iload hx hb d_L_law_430 (lv_at hl 5 rfl) ?_
        refine lv_iconst (v := 3) hx hb d_L_law_432 (by decide) ?_
        refine lv_iadd hx hb d_L_law_433 ?_
        rw [show nI (6 * t) + 3 = nI (6 * t + 3) from nI_add _ 3]
        refine va_sld hx hb hX hbl hbA hS (vp_in_nI (by omega) (by omega)) d_L_law_434 ?_
        rw [nI_clamp (by omega)]
        refine gn_i (runV C0 hG2 (cs_L_74 C0 ⟨(Nat.le_of_ble_eq_true rfl), (Nat.le_of_ble_eq_true rfl)⟩) hH hS (hd_recv C0.hK hH rfl hy1) rfl hl.1 rfl (lv_room (Nat.le_of_ble_eq_true rfl)) d_L_law_435 ⟨by show _ ≤ 601024; omega, by show _ ≤ 7293034; omega⟩) hS (fun r6 w2 H locs hp2 hH hS => ?_)
        obtain ⟨d2, hL2, hv2⟩ := hN2 _ _ hp2
        refine lv_istore (lv' := [(6, .int r6), (5, .int r5), (0, .ref b), (1, .ref x), (2, .ref y), (3, .ref o), (4, .int (nI (6 * t)))]) hx hb d_L_law_438 hl (by decide) rfl (fun ls hl => ?_)
        refine lv_aload_n hx hb d_L_law_440 rfl (lv_at hl 4 rfl) ?_
        obtain ⟨vs2, hy2⟩ := hL2.y
        refine pu_v (runV C0 (hL2.th l) (cs_L_56 C0 ⟨(Nat.le_of_ble_eq_true rfl), (Nat.le_of_ble_eq_true rfl)⟩) hH hS (hd_recv C0.hK hH rfl hy2) rfl hl.1 rfl (lv_room (Nat.le_of_ble_eq_true rfl)) d_L_law_441 ⟨by show _ ≤ 601024; omega, by show _ ≤ 7293034; omega⟩) ?_
        refine lv_iload hx hb d_L_law_444 (lv_at hl 1 rfl) ?_
        refine lv_icmp_eq (tgt := 451) hx hb d_L_law_446 (by decide) (fun c_446 => ?_) (fun c_446 => ?_)
        · refine lv_iload hx hb d_L_law_451 (lv_at hl 1 rfl) ?_
          refine lv_if_ne (tgt := 468) hx hb d_L_law_453 (by decide) (fun c_453 => ?_) (fun c_453 => ?_)
          · refine lv_goto (tgt := 768) hx hb d_L_law_468 (by decide) ?_
            obtain ⟨y_10, ey_10⟩ : ∃ z : Int32, z = (nI (6 * t)) + 6 := ⟨_, rfl⟩
            refine lv_iinc (v := y_10) (lv' := [(4, .int y_10), (6, .int r6), (5, .int r5), (0, .ref b), (1, .ref x), (2, .ref y), (3, .ref o)]) hx hb d_L_law_768 hl (k := 6) rfl (by rw [ey_10]; rfl) (by decide) rfl (fun ls hl => ?_)
            refine lv_goto (tgt := 23) hx hb d_L_law_771 (by decide) ?_
            rw [show y_10 = nI (6 * (t + 1)) from by rw [ey_10, show 6 * (t + 1) = 6 * t + 6 by omega]; exact nI_add _ 6] at hl
            exact ih (t + 1) (by omega) (by omega) w2 _ d2 H locs _ _ hH hS hL2 (by omega) (by omega) ls (lv_sub hl [3, 4, 5, 6, 0] rfl)
          · refine lv_aload_n hx hb d_L_law_456 rfl (lv_at hl 5 rfl) ?_
            refine lv_iconst (v := 0) hx hb d_L_law_457 (by decide) ?_
            have hv3 := hv2 c_453
            refine hd_lald hx hb C0.hK hH 1 hL2.o rfl (show vp_in (nI 0) 1 from vp_in_nI (by decide) (by decide)) d_L_law_458 ?_
            rw [sb_cl0]
            refine lv_iload hx hb d_L_law_459 (lv_at hl 0 rfl) ?_
            refine lv_i2l hx hb d_L_law_461 rfl ?_
            refine W.lcmp hx hb d_L_law_462 ?_
            refine lv_if_eq (tgt := 468) hx hb d_L_law_463 (by decide) (fun c_463 => ?_) (fun c_463 => ?_)
            · refine lv_goto (tgt := 768) hx hb d_L_law_468 (by decide) ?_
              obtain ⟨y_11, ey_11⟩ : ∃ z : Int32, z = (nI (6 * t)) + 6 := ⟨_, rfl⟩
              refine lv_iinc (v := y_11) (lv' := [(4, .int y_11), (6, .int r6), (5, .int r5), (0, .ref b), (1, .ref x), (2, .ref y), (3, .ref o)]) hx hb d_L_law_768 hl (k := 6) rfl (by rw [ey_11]; rfl) (by decide) rfl (fun ls hl => ?_)
              refine lv_goto (tgt := 23) hx hb d_L_law_771 (by decide) ?_
              rw [show y_11 = nI (6 * (t + 1)) from by rw [ey_11, show 6 * (t + 1) = 6 * t + 6 by omega]; exact nI_add _ 6] at hl
              exact ih (t + 1) (by omega) (by omega) w2 _ d2 H locs _ _ hH hS hL2 (by omega) (by omega) ls (lv_sub hl [3, 4, 5, 6, 0] rfl)
            · exact absurd ((lg_cmp_eq _ _).mpr hv3) c_463
        · exact absurd rfl c_446
      by_cases h5 : v = 5
      · rw [h5]
        refine lv_tableIn (off := 431) (tgt := 471) hx hb d_L_law_40 (by decide) (by decide) (by decide) (by decide) ?_
        refine lv_aload_n hx hb d_L_law_471 rfl (lv_at hl 1 rfl) ?_
        obtain ⟨vsx, hx9⟩ := hI9.x
        obtain ⟨P, hG, hN⟩ := st_pairs l G w9 hI9 (ge0_none C0 hH)
        refine gn_i (runV C0 hG (cs_L_75 C0 ⟨(Nat.le_of_ble_eq_true rfl), (Nat.le_of_ble_eq_true rfl)⟩) hH hS (hd_recv C0.hK hH rfl hx9) rfl hl.1 rfl (lv_room (Nat.le_of_ble_eq_true rfl)) d_L_law_472 ⟨by show _ ≤ 601024; omega, by show _ ≤ 7293034; omega⟩) hS (fun v9 w1 H locs hp1 hH hS => ?_)
        obtain ⟨vs1, P2, hy1, hG2, hN2⟩ := hN _ _ hp1
        refine lv_aload_n hx hb d_L_law_475 rfl (lv_at hl 2 rfl) ?_
        refine gn_i (runV C0 hG2 (cs_L_78 C0 ⟨(Nat.le_of_ble_eq_true rfl), (Nat.le_of_ble_eq_true rfl)⟩) hH hS (hd_recv C0.hK hH rfl hy1) rfl hl.1 rfl (lv_room (Nat.le_of_ble_eq_true rfl)) d_L_law_476 ⟨by show _ ≤ 601024; omega, by show _ ≤ 7293034; omega⟩) hS (fun r6 w2 H locs hp2 hH hS => ?_)
        obtain ⟨hr6, hL2⟩ := hN2 _ _ hp2
        refine lv_icmp_eq (tgt := 768) hx hb d_L_law_479 (by decide) (fun c_479 => ?_) (fun c_479 => ?_)
        · obtain ⟨y_12, ey_12⟩ : ∃ z : Int32, z = (nI (6 * t)) + 6 := ⟨_, rfl⟩
          refine lv_iinc (v := y_12) (lv' := [(4, .int y_12), (0, .ref b), (1, .ref x), (2, .ref y), (3, .ref o)]) hx hb d_L_law_768 hl (k := 4) rfl (by rw [ey_12]; rfl) (by decide) rfl (fun ls hl => ?_)
          refine lv_goto (tgt := 23) hx hb d_L_law_771 (by decide) ?_
          rw [show y_12 = nI (6 * (t + 1)) from by rw [ey_12, show 6 * (t + 1) = 6 * t + 6 by omega]; exact nI_add _ 6] at hl
          exact ih (t + 1) (by omega) (by omega) w2 _ d H locs _ _ hH hS hL2 (by omega) (by omega) ls (lv_sub hl [1, 2, 3, 4, 0] rfl)
        · exact absurd hr6 c_479
      by_cases h6 : v = 6
      · rw [h6]
        refine lv_tableIn (off := 444) (tgt := 484) hx hb d_L_law_40 (by decide) (by decide) (by decide) (by decide) ?_
        refine lv_aload_n hx hb d_L_law_484 rfl (lv_at hl 1 rfl) ?_
        refine lv_aload_n hx hb d_L_law_485 rfl (lv_at hl 0 rfl) ?_
        refine lv_iload hx hb d_L_law_486 (lv_at hl 4 rfl) ?_
        refine lv_iconst (v := 1) hx hb d_L_law_488 (by decide) ?_
        refine lv_iadd hx hb d_L_law_489 ?_
        rw [show nI (6 * t) + 1 = nI (6 * t + 1) from nI_add _ 1]
        refine va_sld hx hb hX hbl hbA hS (vp_in_nI (by omega) (by omega)) d_L_law_490 ?_
        rw [nI_clamp (by omega)]
        refine lv_aload_n hx hb d_L_law_491 rfl (lv_at hl 0 rfl) ?_
        refine lv_iload hx hb d_L_law_492 (lv_at hl 4 rfl) ?_
        refine lv_iconst (v := 2) hx hb d_L_law_494 (by decide) ?_
        refine lv_iadd hx hb d_L_law_495 ?_
        rw [show nI (6 * t) + 2 = nI (6 * t + 2) from nI_add _ 2]
        refine va_sld hx hb hX hbl hbA hS (vp_in_nI (by omega) (by omega)) d_L_law_496 ?_
        rw [nI_clamp (by omega)]
        refine lv_aload_n hx hb d_L_law_497 rfl (lv_at hl 0 rfl) ?_
        refine lv_iload hx hb d_L_law_498 (lv_at hl 4 rfl) ?_
        refine lv_iconst (v := 3) hx hb d_L_law_500 (by decide) ?_
        refine lv_iadd hx hb d_L_law_501 ?_
        rw [show nI (6 * t) + 3 = nI (6 * t + 3) from nI_add _ 3]
        refine va_sld hx hb hX hbl hbA hS (vp_in_nI (by omega) (by omega)) d_L_law_502 ?_
        rw [nI_clamp (by omega)]
        refine lv_aload_n hx hb d_L_law_503 rfl (lv_at hl 3 rfl) ?_
        obtain ⟨mc, ms, P, hmc, hms, hG, hN⟩ := st_distance l hlt G w9 hI9 (ge0_none C0 hH) (xs (6 * t + 1)) (xs (6 * t + 2)) (xs (6 * t + 3))
        refine gn_i (runSW C0 hG (csW (n := 5) C0 mw_624 mw_622 mw_623 mw_0 (by decide +kernel) ⟨(Nat.le_of_ble_eq_true rfl), (Nat.le_of_ble_eq_true rfl)⟩) hH hS rfl hl.1 rfl (lv_room (Nat.le_of_ble_eq_true rfl)) d_L_law_504 ⟨by show _ ≤ 601024; omega, by show _ ≤ 7293034; omega⟩) hS (fun r5 w1 H locs hp1 hH hS => ?_)
        obtain ⟨vs1, P2, hy1, hG2, hN2⟩ := hN _ _ hp1
        refine lv_istore (lv' := [(5, .int r5), (0, .ref b), (1, .ref x), (2, .ref y), (3, .ref o), (4, .int (nI (6 * t)))]) hx hb d_L_law_507 hl (by decide) rfl (fun ls hl => ?_)
        refine lv_aload_n hx hb d_L_law_509 rfl (lv_at hl 3 rfl) ?_
        refine lv_aload_n hx hb d_L_law_510 rfl (lv_at hl 1 rfl) ?_
        refine lv_iload hx hb d_L_law_511 (lv_at hl 5 rfl) ?_
        refine lv_iconst (v := 1) hx hb d_L_law_513 (by decide) ?_
        refine lv_iadd hx hb d_L_law_514 ?_
        rw [show nI (6 * t) + 1 = nI (6 * t + 1) from nI_add _ 1]
        refine va_sld hx hb hX hbl hbA hS (vp_in_nI (by omega) (by omega)) d_L_law_515 ?_
        rw [nI_clamp (by omega)]
        refine lv_aload_n hx hb d_L_law_516 rfl (lv_at hl 1 rfl) ?_
        refine lv_iload hx hb d_L_law_517 (lv_at hl 5 rfl) ?_
        refine lv_iconst (v := 2) hx hb d_L_law_519 (by decide) ?_
        refine lv_iadd hx hb d_L_law_520 ?_
        rw [show nI (6 * t) + 2 = nI (6 * t + 2) from nI_add _ 2]
        refine va_sld hx hb hX hbl hbA hS (vp_in_nI (by omega) (by omega)) d_L_law_521 ?_
        rw [nI_clamp (by omega)]
        refine lv_aload_n hx hb d_L_law_522 rfl (lv_at hl 1 rfl) ?_
        refine lv_iload hx hb d_L_law_523 (lv_at hl 5 rfl) ?_
        refine lv_iconst (v := 3) hx hb d_L_law_525 (by decide) ?_
        refine lv_iadd hx hb d_L_law_526 ?_
        rw [show nI (6 * t) + 3 = nI (6 * t + 3) from nI_add _ 3]
        refine va_sld hx hb hX hbl hbA hS (vp_in_nI (by omega) (by omega)) d_L_law_527 ?_
        rw [nI_clamp (by omega)]
        refine gn_l (runV C0 hG2 (cs_L_81 C0 ⟨(Nat.le_of_ble_eq_true rfl), (Nat.le_of_ble_eq_true rfl)⟩) hH hS (hd_recv C0.hK hH rfl hy1) rfl hl.1 rfl (lv_room (Nat.le_of_ble_eq_true rfl)) d_L_law_528 ⟨by show _ ≤ 601024; omega, by show _ ≤ 7293034; omega⟩) hS (fun r6 w2 H locs hp2 hH hS => ?_)
        obtain ⟨d2, hL2, hv2⟩ := hN2 _ _ hp2
        refine lv_lstore (lv' := [(6, .long r6), (5, .int r5), (0, .ref b), (1, .ref x), (2, .ref y), (3, .ref o), (4, .int (nI (6 * t)))]) hx hb d_L_law_531 hl (by decide) rfl (fun ls hl => ?_)
        refine lv_aload_n hx hb d_L_law_533 rfl (lv_at hl 4 rfl) ?_
        obtain ⟨vs2, hy2⟩ := hL2.y
        refine pu_v (runV C0 (hL2.th l) (cs_L_56 C0 ⟨(Nat.le_of_ble_eq_true rfl), (Nat.le_of_ble_eq_true rfl)⟩) hH hS (hd_recv C0.hK hH rfl hy2) rfl hl.1 rfl (lv_room (Nat.le_of_ble_eq_true rfl)) d_L_law_534 ⟨by show _ ≤ 601024; omega, by show _ ≤ 7293034; omega⟩) ?_
        refine lv_iload hx hb d_L_law_537 (lv_at hl 1 rfl) ?_
        refine lv_icmp_eq (tgt := 544) hx hb d_L_law_539 (by decide) (fun c_539 => ?_) (fun c_539 => ?_)
        · refine lv_iload hx hb d_L_law_544 (lv_at hl 1 rfl) ?_
          refine lv_if_ne (tgt := 560) hx hb d_L_law_546 (by decide) (fun c_546 => ?_) (fun c_546 => ?_)
          · refine lv_goto (tgt := 768) hx hb d_L_law_560 (by decide) ?_
            obtain ⟨y_13, ey_13⟩ : ∃ z : Int32, z = (nI (6 * t)) + 6 := ⟨_, rfl⟩
            refine lv_iinc (v := y_13) (lv' := [(4, .int y_13), (6, .long r6), (5, .int r5), (0, .ref b), (1, .ref x), (2, .ref y), (3, .ref o)]) hx hb d_L_law_768 hl (k := 6) rfl (by rw [ey_13]; rfl) (by decide) rfl (fun ls hl => ?_)
            refine lv_goto (tgt := 23) hx hb d_L_law_771 (by decide) ?_
            rw [show y_13 = nI (6 * (t + 1)) from by rw [ey_13, show 6 * (t + 1) = 6 * t + 6 by omega]; exact nI_add _ 6] at hl
            exact ih (t + 1) (by omega) (by omega) w2 _ d2 H locs _ _ hH hS hL2 (by omega) (by omega) ls (lv_sub hl [3, 4, 5, 6, 0] rfl)
          · refine lv_aload_n hx hb d_L_law_549 rfl (lv_at hl 5 rfl) ?_
            refine lv_iconst (v := 0) hx hb d_L_law_550 (by decide) ?_
            have hv3 := hv2 c_546
            refine hd_lald hx hb C0.hK hH 1 hL2.o rfl (show vp_in (nI 0) 1 from vp_in_nI (by decide) (by decide)) d_L_law_551 ?_
            rw [sb_cl0]
            refine lv_lload hx hb d_L_law_552 (lv_at hl 0 rfl) ?_
            refine W.lcmp hx hb d_L_law_554 ?_
            refine lv_if_eq (tgt := 560) hx hb d_L_law_555 (by decide) (fun c_555 => ?_) (fun c_555 => ?_)
            · refine lv_goto (tgt := 768) hx hb d_L_law_560 (by decide) ?_
              obtain ⟨y_14, ey_14⟩ : ∃ z : Int32, z = (nI (6 * t)) + 6 := ⟨_, rfl⟩
              refine lv_iinc (v := y_14) (lv' := [(4, .int y_14), (6, .long r6), (5, .int r5), (0, .ref b), (1, .ref x), (2, .ref y), (3, .ref o)]) hx hb d_L_law_768 hl (k := 6) rfl (by rw [ey_14]; rfl) (by decide) rfl (fun ls hl => ?_)
              refine lv_goto (tgt := 23) hx hb d_L_law_771 (by decide) ?_
              rw [show y_14 = nI (6 * (t + 1)) from by rw [ey_14, show 6 * (t + 1) = 6 * t + 6 by omega]; exact nI_add _ 6] at hl
              exact ih (t + 1) (by omega) (by omega) w2 _ d2 H locs _ _ hH hS hL2 (by omega) (by omega) ls (lv_sub hl [3, 4, 5, 6, 0] rfl)
            · exact absurd ((lg_cmp_eq _ _).mpr hv3) c_555
        · exact absurd rfl c_539
      by_cases h7 : v = 7
      · rw [h7]
        refine lv_tableIn (off := 523) (tgt := 563) hx hb d_L_law_40 (by decide) (by decide) (by decide) (by decide) ?_
        refine lv_aload_n hx hb d_L_law_563 rfl (lv_at hl 1 rfl) ?_
        refine lv_aload_n hx hb d_L_law_564 rfl (lv_at hl 0 rfl) ?_
        refine lv_iload hx hb d_L_law_565 (lv_at hl 4 rfl) ?_
        refine lv_iconst (v := 1) hx hb d_L_law_567 (by decide) ?_
        refine lv_iadd hx hb d_L_law_568 ?_
        rw [show nI (6 * t) + 1 = nI (6 * t + 1) from nI_add _ 1]
        refine va_sld hx hb hX hbl hbA hS (vp_in_nI (by omega) (by omega)) d_L_law_569 ?_
        rw [nI_clamp (by omega)]
        refine lv_aload_n hx hb d_L_law_570 rfl (lv_at hl 3 rfl) ?_
        obtain ⟨mc, ms, P, hmc, hms, hG, hN⟩ := st_bounds l hlt G w9 hI9 (ge0_none C0 hH) (xs (6 * t + 1))
        refine gn_i (runSW C0 hG (csW (n := 3) C0 mw_636 mw_634 mw_635 mw_0 (by decide +kernel) ⟨(Nat.le_of_ble_eq_true rfl), (Nat.le_of_ble_eq_true rfl)⟩) hH hS rfl hl.1 rfl (lv_room (Nat.le_of_ble_eq_true rfl)) d_L_law_571 ⟨by show _ ≤ 601024; omega, by show _ ≤ 7293034; omega⟩) hS (fun r5 w1 H locs hp1 hH hS => ?_)
        obtain ⟨vs1, P2, hy1, hG2, hN2⟩ := hN _ _ hp1
        refine lv_istore (lv' := [(5, .int r5), (0, .ref b), (1, .ref x), (2, .ref y), (3, .ref o), (4, .int (nI (6 * t)))]) hx hb d_L_law_574 hl (by decide) rfl (fun ls hl => ?_)
        refine lv_aload_n hx hb d_L_law_576 rfl (lv_at hl 3 rfl) ?_
        refine lv_aload_n hx hb d_L_law_577 rfl (lv_at hl 1 rfl) ?_
        refine lv_iload hx hb d_L_law_578 (lv_at hl 5 rfl) ?_
        refine lv_iconst (v := 1) hx hb d_L_law_580 (by decide) ?_
        refine lv_iadd hx hb d_L_law_581 ?_
        rw [show nI (6 * t) + 1 = nI (6 * t + 1) from nI_add _ 1]
        refine va_sld hx hb hX hbl hbA hS (vp_in_nI (by omega) (by omega)) d_L_law_582 ?_
        rw [nI_clamp (by omega)]
        refine gn_i (runV C0 hG2 (cs_L_84 C0 ⟨(Nat.le_of_ble_eq_true rfl), (Nat.le_of_ble_eq_true rfl)⟩) hH hS (hd_recv C0.hK hH rfl hy1) rfl hl.1 rfl (lv_room (Nat.le_of_ble_eq_true rfl)) d_L_law_583 ⟨by show _ ≤ 601024; omega, by show _ ≤ 7293034; omega⟩) hS (fun r6 w2 H locs hp2 hH hS => ?_)
        obtain ⟨d2, hL2, hv2⟩ := hN2 _ _ hp2
        refine lv_istore (lv' := [(6, .int r6), (5, .int r5), (0, .ref b), (1, .ref x), (2, .ref y), (3, .ref o), (4, .int (nI (6 * t)))]) hx hb d_L_law_586 hl (by decide) rfl (fun ls hl => ?_)
        refine lv_aload_n hx hb d_L_law_588 rfl (lv_at hl 4 rfl) ?_
        obtain ⟨vs2, hy2⟩ := hL2.y
        refine pu_v (runV C0 (hL2.th l) (cs_L_56 C0 ⟨(Nat.le_of_ble_eq_true rfl), (Nat.le_of_ble_eq_true rfl)⟩) hH hS (hd_recv C0.hK hH rfl hy2) rfl hl.1 rfl (lv_room (Nat.le_of_ble_eq_true rfl)) d_L_law_589 ⟨by show _ ≤ 601024; omega, by show _ ≤ 7293034; omega⟩) ?_
        refine lv_iload hx hb d_L_law_592 (lv_at hl 1 rfl) ?_
        refine lv_icmp_eq (tgt := 599) hx hb d_L_law_594 (by decide) (fun c_594 => ?_) (fun c_594 => ?_)
        · refine lv_iload hx hb d_L_law_599 (lv_at hl 1 rfl) ?_
          refine lv_if_ne (tgt := 616) hx hb d_L_law_601 (by decide) (fun c_601 => ?_) (fun c_601 => ?_)
          · refine lv_goto (tgt := 768) hx hb d_L_law_616 (by decide) ?_
            obtain ⟨y_15, ey_15⟩ : ∃ z : Int32, z = (nI (6 * t)) + 6 := ⟨_, rfl⟩
            refine lv_iinc (v := y_15) (lv' := [(4, .int y_15), (6, .int r6), (5, .int r5), (0, .ref b), (1, .ref x), (2, .ref y), (3, .ref o)]) hx hb d_L_law_768 hl (k := 6) rfl (by rw [ey_15]; rfl) (by decide) rfl (fun ls hl => ?_)
            refine lv_goto (tgt := 23) hx hb d_L_law_771 (by decide) ?_
            rw [show y_15 = nI (6 * (t + 1)) from by rw [ey_15, show 6 * (t + 1) = 6 * t + 6 by omega]; exact nI_add _ 6] at hl
            exact ih (t + 1) (by omega) (by omega) w2 _ d2 H locs _ _ hH hS hL2 (by omega) (by omega) ls (lv_sub hl [3, 4, 5, 6, 0] rfl)
          · refine lv_aload_n hx hb d_L_law_604 rfl (lv_at hl 5 rfl) ?_
            refine lv_iconst (v := 0) hx hb d_L_law_605 (by decide) ?_
            have hv3 := hv2 c_601
            refine hd_lald hx hb C0.hK hH 1 hL2.o rfl (show vp_in (nI 0) 1 from vp_in_nI (by decide) (by decide)) d_L_law_606 ?_
            rw [sb_cl0]
            refine lv_iload hx hb d_L_law_607 (lv_at hl 0 rfl) ?_
            refine lv_i2l hx hb d_L_law_609 rfl ?_
            refine W.lcmp hx hb d_L_law_610 ?_
            refine lv_if_eq (tgt := 616) hx hb d_L_law_611 (by decide) (fun c_611 => ?_) (fun c_611 => ?_)
            · refine lv_goto (tgt := 768) hx hb d_L_law_616 (by decide) ?_
              obtain ⟨y_16, ey_16⟩ : ∃ z : Int32, z = (nI (6 * t)) + 6 := ⟨_, rfl⟩
              refine lv_iinc (v := y_16) (lv' := [(4, .int y_16), (6, .int r6), (5, .int r5), (0, .ref b), (1, .ref x), (2, .ref y), (3, .ref o)]) hx hb d_L_law_768 hl (k := 6) rfl (by rw [ey_16]; rfl) (by decide) rfl (fun ls hl => ?_)
              refine lv_goto (tgt := 23) hx hb d_L_law_771 (by decide) ?_
              rw [show y_16 = nI (6 * (t + 1)) from by rw [ey_16, show 6 * (t + 1) = 6 * t + 6 by omega]; exact nI_add _ 6] at hl
              exact ih (t + 1) (by omega) (by omega) w2 _ d2 H locs _ _ hH hS hL2 (by omega) (by omega) ls (lv_sub hl [3, 4, 5, 6, 0] rfl)
            · exact absurd ((lg_cmp_eq _ _).mpr hv3) c_611
        · exact absurd rfl c_594
      by_cases h8 : v = 8
      · rw [h8]
        refine lv_tableIn (off := 579) (tgt := 619) hx hb d_L_law_40 (by decide) (by decide) (by decide) (by decide) ?_
        refine lv_aload_n hx hb d_L_law_619 rfl (lv_at hl 1 rfl) ?_
        refine lv_aload_n hx hb d_L_law_620 rfl (lv_at hl 0 rfl) ?_
        refine lv_iload hx hb d_L_law_621 (lv_at hl 4 rfl) ?_
        refine lv_iconst (v := 1) hx hb d_L_law_623 (by decide) ?_
        refine lv_iadd hx hb d_L_law_624 ?_
        rw [show nI (6 * t) + 1 = nI (6 * t + 1) from nI_add _ 1]
        refine va_sld hx hb hX hbl hbA hS (vp_in_nI (by omega) (by omega)) d_L_law_625 ?_
        rw [nI_clamp (by omega)]
        refine lv_aload_n hx hb d_L_law_626 rfl (lv_at hl 3 rfl) ?_
        obtain ⟨mc, ms, P, hmc, hms, hG, hN⟩ := st_result l hlt G w9 hI9 (ge0_none C0 hH) (xs (6 * t + 1))
        refine gn_i (runSW C0 hG (csW (n := 3) C0 mw_675 mw_673 mw_674 mw_0 (by decide +kernel) ⟨(Nat.le_of_ble_eq_true rfl), (Nat.le_of_ble_eq_true rfl)⟩) hH hS rfl hl.1 rfl (lv_room (Nat.le_of_ble_eq_true rfl)) d_L_law_627 ⟨by show _ ≤ 601024; omega, by show _ ≤ 7293034; omega⟩) hS (fun r5 w1 H locs hp1 hH hS => ?_)
        obtain ⟨vs1, P2, hy1, hG2, hN2⟩ := hN _ _ hp1
        refine lv_istore (lv' := [(5, .int r5), (0, .ref b), (1, .ref x), (2, .ref y), (3, .ref o), (4, .int (nI (6 * t)))]) hx hb d_L_law_630 hl (by decide) rfl (fun ls hl => ?_)
        refine lv_aload_n hx hb d_L_law_632 rfl (lv_at hl 3 rfl) ?_
        refine lv_aload_n hx hb d_L_law_633 rfl (lv_at hl 1 rfl) ?_
        refine lv_iload hx hb d_L_law_634 (lv_at hl 5 rfl) ?_
        refine lv_iconst (v := 1) hx hb d_L_law_636 (by decide) ?_
        refine lv_iadd hx hb d_L_law_637 ?_
        rw [show nI (6 * t) + 1 = nI (6 * t + 1) from nI_add _ 1]
        refine va_sld hx hb hX hbl hbA hS (vp_in_nI (by omega) (by omega)) d_L_law_638 ?_
        rw [nI_clamp (by omega)]
        refine gn_i (runV C0 hG2 (cs_L_87 C0 ⟨(Nat.le_of_ble_eq_true rfl), (Nat.le_of_ble_eq_true rfl)⟩) hH hS (hd_recv C0.hK hH rfl hy1) rfl hl.1 rfl (lv_room (Nat.le_of_ble_eq_true rfl)) d_L_law_639 ⟨by show _ ≤ 601024; omega, by show _ ≤ 7293034; omega⟩) hS (fun r6 w2 H locs hp2 hH hS => ?_)
        obtain ⟨d2, hL2, hv2⟩ := hN2 _ _ hp2
        refine lv_istore (lv' := [(6, .int r6), (5, .int r5), (0, .ref b), (1, .ref x), (2, .ref y), (3, .ref o), (4, .int (nI (6 * t)))]) hx hb d_L_law_642 hl (by decide) rfl (fun ls hl => ?_)
        refine lv_aload_n hx hb d_L_law_644 rfl (lv_at hl 4 rfl) ?_
        obtain ⟨vs2, hy2⟩ := hL2.y
        refine pu_v (runV C0 (hL2.th l) (cs_L_56 C0 ⟨(Nat.le_of_ble_eq_true rfl), (Nat.le_of_ble_eq_true rfl)⟩) hH hS (hd_recv C0.hK hH rfl hy2) rfl hl.1 rfl (lv_room (Nat.le_of_ble_eq_true rfl)) d_L_law_645 ⟨by show _ ≤ 601024; omega, by show _ ≤ 7293034; omega⟩) ?_
        refine lv_iload hx hb d_L_law_648 (lv_at hl 1 rfl) ?_
        refine lv_icmp_eq (tgt := 655) hx hb d_L_law_650 (by decide) (fun c_650 => ?_) (fun c_650 => ?_)
        · refine lv_iload hx hb d_L_law_655 (lv_at hl 1 rfl) ?_
          refine lv_if_ne (tgt := 672) hx hb d_L_law_657 (by decide) (fun c_657 => ?_) (fun c_657 => ?_)
          · refine lv_goto (tgt := 768) hx hb d_L_law_672 (by decide) ?_
            obtain ⟨y_17, ey_17⟩ : ∃ z : Int32, z = (nI (6 * t)) + 6 := ⟨_, rfl⟩
            refine lv_iinc (v := y_17) (lv' := [(4, .int y_17), (6, .int r6), (5, .int r5), (0, .ref b), (1, .ref x), (2, .ref y), (3, .ref o)]) hx hb d_L_law_768 hl (k := 6) rfl (by rw [ey_17]; rfl) (by decide) rfl (fun ls hl => ?_)
            refine lv_goto (tgt := 23) hx hb d_L_law_771 (by decide) ?_
            rw [show y_17 = nI (6 * (t + 1)) from by rw [ey_17, show 6 * (t + 1) = 6 * t + 6 by omega]; exact nI_add _ 6] at hl
            exact ih (t + 1) (by omega) (by omega) w2 _ d2 H locs _ _ hH hS hL2 (by omega) (by omega) ls (lv_sub hl [3, 4, 5, 6, 0] rfl)
          · refine lv_aload_n hx hb d_L_law_660 rfl (lv_at hl 5 rfl) ?_
            refine lv_iconst (v := 0) hx hb d_L_law_661 (by decide) ?_
            have hv3 := hv2 c_657
            refine hd_lald hx hb C0.hK hH 1 hL2.o rfl (show vp_in (nI 0) 1 from vp_in_nI (by decide) (by decide)) d_L_law_662 ?_
            rw [sb_cl0]
            refine lv_iload hx hb d_L_law_663 (lv_at hl 0 rfl) ?_
            refine lv_i2l hx hb d_L_law_665 rfl ?_
            refine W.lcmp hx hb d_L_law_666 ?_
            refine lv_if_eq (tgt := 672) hx hb d_L_law_667 (by decide) (fun c_667 => ?_) (fun c_667 => ?_)
            · refine lv_goto (tgt := 768) hx hb d_L_law_672 (by decide) ?_
              obtain ⟨y_18, ey_18⟩ : ∃ z : Int32, z = (nI (6 * t)) + 6 := ⟨_, rfl⟩
              refine lv_iinc (v := y_18) (lv' := [(4, .int y_18), (6, .int r6), (5, .int r5), (0, .ref b), (1, .ref x), (2, .ref y), (3, .ref o)]) hx hb d_L_law_768 hl (k := 6) rfl (by rw [ey_18]; rfl) (by decide) rfl (fun ls hl => ?_)
              refine lv_goto (tgt := 23) hx hb d_L_law_771 (by decide) ?_
              rw [show y_18 = nI (6 * (t + 1)) from by rw [ey_18, show 6 * (t + 1) = 6 * t + 6 by omega]; exact nI_add _ 6] at hl
              exact ih (t + 1) (by omega) (by omega) w2 _ d2 H locs _ _ hH hS hL2 (by omega) (by omega) ls (lv_sub hl [3, 4, 5, 6, 0] rfl)
            · exact absurd ((lg_cmp_eq _ _).mpr hv3) c_667
        · exact absurd rfl c_650
      by_cases h9 : v = 9
      · rw [h9]
        refine lv_tableIn (off := 635) (tgt := 675) hx hb d_L_law_40 (by decide) (by decide) (by decide) (by decide) ?_
        refine lv_aload_n hx hb d_L_law_675 rfl (lv_at hl 1 rfl) ?_
        refine lv_aload_n hx hb d_L_law_676 rfl (lv_at hl 0 rfl) ?_
        refine lv_iload hx hb d_L_law_677 (lv_at hl 4 rfl) ?_
        refine lv_iconst (v := 1) hx hb d_L_law_679 (by decide) ?_
        refine lv_iadd hx hb d_L_law_680 ?_
        rw [show nI (6 * t) + 1 = nI (6 * t + 1) from nI_add _ 1]
        refine va_sld hx hb hX hbl hbA hS (vp_in_nI (by omega) (by omega)) d_L_law_681 ?_
        rw [nI_clamp (by omega)]
        refine lv_aload_n hx hb d_L_law_682 rfl (lv_at hl 0 rfl) ?_
        refine lv_iload hx hb d_L_law_683 (lv_at hl 4 rfl) ?_
        refine lv_iconst (v := 2) hx hb d_L_law_685 (by decide) ?_
        refine lv_iadd hx hb d_L_law_686 ?_
        rw [show nI (6 * t) + 2 = nI (6 * t + 2) from nI_add _ 2]
        refine va_sld hx hb hX hbl hbA hS (vp_in_nI (by omega) (by omega)) d_L_law_687 ?_
        rw [nI_clamp (by omega)]
        refine lv_aload_n hx hb d_L_law_688 rfl (lv_at hl 3 rfl) ?_
        obtain ⟨mc, ms, P, hmc, hms, hG, hN⟩ := st_box l hlt G w9 hI9 (ge0_none C0 hH) (xs (6 * t + 1)) (xs (6 * t + 2))
        refine gn_i (runSW C0 hG (csW (n := 4) C0 mw_683 mw_681 mw_682 mw_0 (by decide +kernel) ⟨(Nat.le_of_ble_eq_true rfl), (Nat.le_of_ble_eq_true rfl)⟩) hH hS rfl hl.1 rfl (lv_room (Nat.le_of_ble_eq_true rfl)) d_L_law_689 ⟨by show _ ≤ 601024; omega, by show _ ≤ 7293034; omega⟩) hS (fun r5 w1 H locs hp1 hH hS => ?_)
        obtain ⟨vs1, P2, hy1, hG2, hN2⟩ := hN _ _ hp1
        refine lv_istore (lv' := [(5, .int r5), (0, .ref b), (1, .ref x), (2, .ref y), (3, .ref o), (4, .int (nI (6 * t)))]) hx hb d_L_law_692 hl (by decide) rfl (fun ls hl => ?_)
        refine lv_aload_n hx hb d_L_law_694 rfl (lv_at hl 3 rfl) ?_
        refine lv_aload_n hx hb d_L_law_695 rfl (lv_at hl 1 rfl) ?_
        refine lv_iload hx hb d_L_law_696 (lv_at hl 5 rfl) ?_
        refine lv_iconst (v := 1) hx hb d_L_law_698 (by decide) ?_
        refine lv_iadd hx hb d_L_law_699 ?_
        rw [show nI (6 * t) + 1 = nI (6 * t + 1) from nI_add _ 1]
        refine va_sld hx hb hX hbl hbA hS (vp_in_nI (by omega) (by omega)) d_L_law_700 ?_
        rw [nI_clamp (by omega)]
        refine lv_aload_n hx hb d_L_law_701 rfl (lv_at hl 1 rfl) ?_
        refine lv_iload hx hb d_L_law_702 (lv_at hl 5 rfl) ?_
        refine lv_iconst (v := 2) hx hb d_L_law_704 (by decide) ?_
        refine lv_iadd hx hb d_L_law_705 ?_
        rw [show nI (6 * t) + 2 = nI (6 * t + 2) from nI_add _ 2]
        refine va_sld hx hb hX hbl hbA hS (vp_in_nI (by omega) (by omega)) d_L_law_706 ?_
        rw [nI_clamp (by omega)]
        refine gn_i (runV C0 hG2 (cs_L_91 C0 ⟨(Nat.le_of_ble_eq_true rfl), (Nat.le_of_ble_eq_true rfl)⟩) hH hS (hd_recv C0.hK hH rfl hy1) rfl hl.1 rfl (lv_room (Nat.le_of_ble_eq_true rfl)) d_L_law_707 ⟨by show _ ≤ 601024; omega, by show _ ≤ 7293034; omega⟩) hS (fun r6 w2 H locs hp2 hH hS => ?_)
        obtain ⟨d2, hL2, hv2⟩ := hN2 _ _ hp2
        refine lv_istore (lv' := [(6, .int r6), (5, .int r5), (0, .ref b), (1, .ref x), (2, .ref y), (3, .ref o), (4, .int (nI (6 * t)))]) hx hb d_L_law_710 hl (by decide) rfl (fun ls hl => ?_)
        refine lv_aload_n hx hb d_L_law_712 rfl (lv_at hl 4 rfl) ?_
        obtain ⟨vs2, hy2⟩ := hL2.y
        refine pu_v (runV C0 (hL2.th l) (cs_L_56 C0 ⟨(Nat.le_of_ble_eq_true rfl), (Nat.le_of_ble_eq_true rfl)⟩) hH hS (hd_recv C0.hK hH rfl hy2) rfl hl.1 rfl (lv_room (Nat.le_of_ble_eq_true rfl)) d_L_law_713 ⟨by show _ ≤ 601024; omega, by show _ ≤ 7293034; omega⟩) ?_
        refine lv_iload hx hb d_L_law_716 (lv_at hl 1 rfl) ?_
        refine lv_icmp_eq (tgt := 723) hx hb d_L_law_718 (by decide) (fun c_718 => ?_) (fun c_718 => ?_)
        · refine lv_iload hx hb d_L_law_723 (lv_at hl 1 rfl) ?_
          refine lv_if_ne (tgt := 740) hx hb d_L_law_725 (by decide) (fun c_725 => ?_) (fun c_725 => ?_)
          · refine lv_goto (tgt := 768) hx hb d_L_law_740 (by decide) ?_
            obtain ⟨y_19, ey_19⟩ : ∃ z : Int32, z = (nI (6 * t)) + 6 := ⟨_, rfl⟩
            refine lv_iinc (v := y_19) (lv' := [(4, .int y_19), (6, .int r6), (5, .int r5), (0, .ref b), (1, .ref x), (2, .ref y), (3, .ref o)]) hx hb d_L_law_768 hl (k := 6) rfl (by rw [ey_19]; rfl) (by decide) rfl (fun ls hl => ?_)
            refine lv_goto (tgt := 23) hx hb d_L_law_771 (by decide) ?_
            rw [show y_19 = nI (6 * (t + 1)) from by rw [ey_19, show 6 * (t + 1) = 6 * t + 6 by omega]; exact nI_add _ 6] at hl
            exact ih (t + 1) (by omega) (by omega) w2 _ d2 H locs _ _ hH hS hL2 (by omega) (by omega) ls (lv_sub hl [3, 4, 5, 6, 0] rfl)
          · refine lv_aload_n hx hb d_L_law_728 rfl (lv_at hl 5 rfl) ?_
            refine lv_iconst (v := 0) hx hb d_L_law_729 (by decide) ?_
            have hv3 := hv2 c_725
            refine hd_lald hx hb C0.hK hH 1 hL2.o rfl (show vp_in (nI 0) 1 from vp_in_nI (by decide) (by decide)) d_L_law_730 ?_
            rw [sb_cl0]
            refine lv_iload hx hb d_L_law_731 (lv_at hl 0 rfl) ?_
            refine lv_i2l hx hb d_L_law_733 rfl ?_
            refine W.lcmp hx hb d_L_law_734 ?_
            refine lv_if_eq (tgt := 740) hx hb d_L_law_735 (by decide) (fun c_735 => ?_) (fun c_735 => ?_)
            · refine lv_goto (tgt := 768) hx hb d_L_law_740 (by decide) ?_
              obtain ⟨y_20, ey_20⟩ : ∃ z : Int32, z = (nI (6 * t)) + 6 := ⟨_, rfl⟩
              refine lv_iinc (v := y_20) (lv' := [(4, .int y_20), (6, .int r6), (5, .int r5), (0, .ref b), (1, .ref x), (2, .ref y), (3, .ref o)]) hx hb d_L_law_768 hl (k := 6) rfl (by rw [ey_20]; rfl) (by decide) rfl (fun ls hl => ?_)
              refine lv_goto (tgt := 23) hx hb d_L_law_771 (by decide) ?_
              rw [show y_20 = nI (6 * (t + 1)) from by rw [ey_20, show 6 * (t + 1) = 6 * t + 6 by omega]; exact nI_add _ 6] at hl
              exact ih (t + 1) (by omega) (by omega) w2 _ d2 H locs _ _ hH hS hL2 (by omega) (by omega) ls (lv_sub hl [3, 4, 5, 6, 0] rfl)
            · exact absurd ((lg_cmp_eq _ _).mpr hv3) c_735
        · exact absurd rfl c_718
      by_cases h10 : v = 10
      · rw [h10]
        refine lv_tableIn (off := 703) (tgt := 743) hx hb d_L_law_40 (by decide) (by decide) (by decide) (by decide) ?_
        refine lv_aload_n hx hb d_L_law_743 rfl (lv_at hl 1 rfl) ?_
        refine lv_aload_n hx hb d_L_law_744 rfl (lv_at hl 0 rfl) ?_
        refine lv_iload hx hb d_L_law_745 (lv_at hl 4 rfl) ?_
        refine lv_iconst (v := 1) hx hb d_L_law_747 (by decide) ?_
        refine lv_iadd hx hb d_L_law_748 ?_
        rw [show nI (6 * t) + 1 = nI (6 * t + 1) from nI_add _ 1]
        refine va_sld hx hb hX hbl hbA hS (vp_in_nI (by omega) (by omega)) d_L_law_749 ?_
        rw [nI_clamp (by omega)]
        obtain ⟨vsx, hx9⟩ := hI9.x
        obtain ⟨v9, vs1, P2, hG, hy1, hG2, hN2⟩ := st_count l G w9 hI9 (xs (6 * t + 1))
        refine pu_v (runV C0 hG (cs_L_92 C0 ⟨(Nat.le_of_ble_eq_true rfl), (Nat.le_of_ble_eq_true rfl)⟩) hH hS (hd_recv C0.hK hH rfl hx9) rfl hl.1 rfl (lv_room (Nat.le_of_ble_eq_true rfl)) d_L_law_750 ⟨by show _ ≤ 601024; omega, by show _ ≤ 7293034; omega⟩) ?_
        refine lv_aload_n hx hb d_L_law_753 rfl (lv_at hl 2 rfl) ?_
        refine lv_aload_n hx hb d_L_law_754 rfl (lv_at hl 0 rfl) ?_
        refine lv_iload hx hb d_L_law_755 (lv_at hl 4 rfl) ?_
        refine lv_iconst (v := 1) hx hb d_L_law_757 (by decide) ?_
        refine lv_iadd hx hb d_L_law_758 ?_
        rw [show nI (6 * t) + 1 = nI (6 * t + 1) from nI_add _ 1]
        refine va_sld hx hb hX hbl hbA hS (vp_in_nI (by omega) (by omega)) d_L_law_759 ?_
        rw [nI_clamp (by omega)]
        refine gn_i (runV C0 hG2 (cs_L_95 C0 ⟨(Nat.le_of_ble_eq_true rfl), (Nat.le_of_ble_eq_true rfl)⟩) hH hS (hd_recv C0.hK hH rfl hy1) rfl hl.1 rfl (lv_room (Nat.le_of_ble_eq_true rfl)) d_L_law_760 ⟨by show _ ≤ 601024; omega, by show _ ≤ 7293034; omega⟩) hS (fun r6 w2 H locs hp2 hH hS => ?_)
        obtain ⟨hr6, hL2⟩ := hN2 _ _ hp2
        refine lv_icmp_eq (tgt := 768) hx hb d_L_law_763 (by decide) (fun c_763 => ?_) (fun c_763 => ?_)
        · obtain ⟨y_21, ey_21⟩ : ∃ z : Int32, z = (nI (6 * t)) + 6 := ⟨_, rfl⟩
          refine lv_iinc (v := y_21) (lv' := [(4, .int y_21), (0, .ref b), (1, .ref x), (2, .ref y), (3, .ref o)]) hx hb d_L_law_768 hl (k := 4) rfl (by rw [ey_21]; rfl) (by decide) rfl (fun ls hl => ?_)
          refine lv_goto (tgt := 23) hx hb d_L_law_771 (by decide) ?_
          rw [show y_21 = nI (6 * (t + 1)) from by rw [ey_21, show 6 * (t + 1) = 6 * t + 6 by omega]; exact nI_add _ 6] at hl
          exact ih (t + 1) (by omega) (by omega) w2 _ d H locs _ _ hH hS hL2 (by omega) (by omega) ls (lv_sub hl [1, 2, 3, 4, 0] rfl)
        · exact absurd hr6 c_763
      refine lv_tableOut (tgt := 768) hx hb d_L_law_40 (by have a0 := tIne h0; rw [show (0 : Int32).toInt = 0 from rfl] at a0; have a1 := tIne h1; rw [show (1 : Int32).toInt = 1 from rfl] at a1; have a2 := tIne h2; rw [show (2 : Int32).toInt = 2 from rfl] at a2; have a3 := tIne h3; rw [show (3 : Int32).toInt = 3 from rfl] at a3; have a4 := tIne h4; rw [show (4 : Int32).toInt = 4 from rfl] at a4; have a5 := tIne h5; rw [show (5 : Int32).toInt = 5 from rfl] at a5; have a6 := tIne h6; rw [show (6 : Int32).toInt = 6 from rfl] at a6; have a7 := tIne h7; rw [show (7 : Int32).toInt = 7 from rfl] at a7; have a8 := tIne h8; rw [show (8 : Int32).toInt = 8 from rfl] at a8; have a9 := tIne h9; rw [show (9 : Int32).toInt = 9 from rfl] at a9; have a10 := tIne h10; rw [show (10 : Int32).toInt = 10 from rfl] at a10; omega) (by decide) ?_
      obtain ⟨y_22, ey_22⟩ : ∃ z : Int32, z = (nI (6 * t)) + 6 := ⟨_, rfl⟩
      refine lv_iinc (v := y_22) (lv' := [(4, .int y_22), (0, .ref b), (1, .ref x), (2, .ref y), (3, .ref o)]) hx hb d_L_law_768 hl (k := 4) rfl (by rw [ey_22]; rfl) (by decide) rfl (fun ls hl => ?_)
      refine lv_goto (tgt := 23) hx hb d_L_law_771 (by decide) ?_
      rw [show y_22 = nI (6 * (t + 1)) from by rw [ey_22, show 6 * (t + 1) = 6 * t + 6 by omega]; exact nI_add _ 6] at hl
      exact ih (t + 1) (by omega) (by omega) w9 tc d H locs _ _ hH hS hI9 (by omega) (by omega) ls (lv_sub hl [1, 2, 3, 4, 0] rfl)
