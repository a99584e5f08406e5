/-! Class tables, what stays of the start (Ev), contracts over worlds, their entries and calls. -/
def TA : u_T := fun k => match k with
  | 0 => ("java/util/AbstractList", "modCount", "I", false)
  | 1 => ("java/util/ArrayList", "elementData", "[Ljava/lang/Object;", false)
  | _ => ("java/util/ArrayList", "size", "I", false)
def tyA : Nat → FieldType := fun k => match k with
  | 0 => .int
  | 1 => .array (.object "java/lang/Object")
  | _ => .int
def TX : u_T := fun k => match k with
  | 0 => ("BoxDrawer$Box", "number", "I", true)
  | 1 => ("BoxDrawer$Box", "lowX", "I", true)
  | 2 => ("BoxDrawer$Box", "lowY", "I", true)
  | 3 => ("BoxDrawer$Box", "highX", "I", true)
  | _ => ("BoxDrawer$Box", "highY", "I", true)
def tyX : Nat → FieldType := fun _ => .int
def TB : u_T := fun k => match k with
  | 0 => ("BoxDrawer", "boxes", "Ljava/util/ArrayList;", true)
  | 1 => ("BoxDrawer", "found", "[I", false)
  | 2 => ("BoxDrawer", "foundCount", "I", false)
  | _ => ("BoxDrawer", "foundDistances", "[J", false)
def tyB : Nat → FieldType := fun k => match k with
  | 0 => .object "java/util/ArrayList"
  | 1 => .array .int
  | 2 => .int
  | _ => .array .long
def TM : u_T := fun k => match k with
  | 0 => ("BoxDrawerModel", "thrown", "I", false)
  | 1 => ("BoxDrawerModel", "there", "[Z", true)
  | 2 => ("BoxDrawerModel", "lowX", "[I", true)
  | 3 => ("BoxDrawerModel", "lowY", "[I", true)
  | 4 => ("BoxDrawerModel", "highX", "[I", true)
  | 5 => ("BoxDrawerModel", "highY", "[I", true)
  | 6 => ("BoxDrawerModel", "size", "I", false)
  | _ => ("BoxDrawerModel", "result", "[I", true)
def tyM : Nat → FieldType := fun k => match k with
  | 0 => .int
  | 1 => .array .boolean
  | 2 => .array .int
  | 3 => .array .int
  | 4 => .array .int
  | 5 => .array .int
  | 6 => .int
  | _ => .array .int
abbrev kls : List vw_C := [("java/util/ArrayList", TA, 3), ("BoxDrawer$Box", TX, 5), ("BoxDrawer", TB, 4), ("BoxDrawerModel", TM, 8)]
theorem nmA : ∀ a, a < 3 → ∀ b, b < 3 → a ≠ b → (TA a).2.1 ≠ (TA b).2.1 := by decide +kernel
theorem tyA_ok : ∀ k, k < 3 → parseFieldDescriptor (TA k).2.2.1 = some (tyA k) := by decide +kernel
theorem nmX : ∀ a, a < 5 → ∀ b, b < 5 → a ≠ b → (TX a).2.1 ≠ (TX b).2.1 := by decide +kernel
theorem tyX_ok : ∀ k, k < 5 → parseFieldDescriptor (TX k).2.2.1 = some (tyX k) := by decide +kernel
theorem nmB : ∀ a, a < 4 → ∀ b, b < 4 → a ≠ b → (TB a).2.1 ≠ (TB b).2.1 := by decide +kernel
theorem tyB_ok : ∀ k, k < 4 → parseFieldDescriptor (TB k).2.2.1 = some (tyB k) := by decide +kernel
theorem nmM : ∀ a, a < 8 → ∀ b, b < 8 → a ≠ b → (TM a).2.1 ≠ (TM b).2.1 := by decide +kernel
theorem tyM_ok : ∀ k, k < 8 → parseFieldDescriptor (TM k).2.2.1 = some (tyM k) := by decide +kernel
theorem in_A : ∀ w ∈ u_ws "java/util/ArrayList" TA 3, w ∈ big := by
  intro w hw
  have h : u_ws "java/util/ArrayList" TA 3 = [.lays "java/util/ArrayList" "java/util/AbstractList" "modCount" "I", .lays "java/util/ArrayList" "java/util/ArrayList" "elementData" "[Ljava/lang/Object;", .lays "java/util/ArrayList" "java/util/ArrayList" "size" "I"] := rfl
  rw [h] at hw
  simp only [List.mem_cons, List.not_mem_nil, or_false] at hw
  rcases hw with rfl | rfl | rfl
  · exact mw_56
  · exact mw_52
  · exact mw_54
theorem in_X : ∀ w ∈ u_ws "BoxDrawer$Box" TX 5, w ∈ big := by
  intro w hw
  have h : u_ws "BoxDrawer$Box" TX 5 = [.laysFinal "BoxDrawer$Box" "BoxDrawer$Box" "number" "I", .laysFinal "BoxDrawer$Box" "BoxDrawer$Box" "lowX" "I", .laysFinal "BoxDrawer$Box" "BoxDrawer$Box" "lowY" "I", .laysFinal "BoxDrawer$Box" "BoxDrawer$Box" "highX" "I", .laysFinal "BoxDrawer$Box" "BoxDrawer$Box" "highY" "I"] := rfl
  rw [h] at hw
  simp only [List.mem_cons, List.not_mem_nil, or_false] at hw
  rcases hw with rfl | rfl | rfl | rfl | rfl
  · exact mw_257
  · exact mw_259
  · exact mw_261
  · exact mw_263
  · exact mw_265
theorem in_B : ∀ w ∈ u_ws "BoxDrawer" TB 4, w ∈ big := by
  intro w hw
  have h : u_ws "BoxDrawer" TB 4 = [.laysFinal "BoxDrawer" "BoxDrawer" "boxes" "Ljava/util/ArrayList;", .lays "BoxDrawer" "BoxDrawer" "found" "[I", .lays "BoxDrawer" "BoxDrawer" "foundCount" "I", .lays "BoxDrawer" "BoxDrawer" "foundDistances" "[J"] := rfl
  rw [h] at hw
  simp only [List.mem_cons, List.not_mem_nil, or_false] at hw
  rcases hw with rfl | rfl | rfl | rfl
  · exact mw_63
  · exact mw_65
  · exact mw_67
  · exact mw_69
theorem in_M : ∀ w ∈ u_ws "BoxDrawerModel" TM 8, w ∈ big := by
  intro w hw
  have h : u_ws "BoxDrawerModel" TM 8 = [.lays "BoxDrawerModel" "BoxDrawerModel" "thrown" "I", .laysFinal "BoxDrawerModel" "BoxDrawerModel" "there" "[Z", .laysFinal "BoxDrawerModel" "BoxDrawerModel" "lowX" "[I", .laysFinal "BoxDrawerModel" "BoxDrawerModel" "lowY" "[I", .laysFinal "BoxDrawerModel" "BoxDrawerModel" "highX" "[I", .laysFinal "BoxDrawerModel" "BoxDrawerModel" "highY" "[I", .lays "BoxDrawerModel" "BoxDrawerModel" "size" "I", .laysFinal "BoxDrawerModel" "BoxDrawerModel" "result" "[I"] := rfl
  rw [h] at hw
  simp only [List.mem_cons, List.not_mem_nil, or_false] at hw
  rcases hw with rfl | rfl | rfl | rfl | rfl | rfl | rfl | rfl
  · exact mw_702
  · exact mw_704
  · exact mw_706
  · exact mw_708
  · exact mw_710
  · exact mw_712
  · exact mw_714
  · exact mw_716
/-- the numbers that every contract speaks of: the classes' numbers and slots; the array classes of int, long, boolean, Object; where the new cells begin; ArrayList's empty array; the Class object of Object[] -/
abbrev Gl : Type := va_G × (ClassId × ClassId × ClassId × ClassId) × Nat × Nat × Nat
abbrev gtys (G : Gl) : List (ClassId × FieldType) := [(G.2.1.1, .int), (G.2.1.2.1, .long), (G.2.1.2.2.1, .boolean), (G.2.1.2.2.2, .object "java/lang/Object")]
abbrev gA (G : Gl) : Nat → Prop := fun q => G.2.2.1 ≤ q
abbrev ge0 (G : Gl) : Nat := G.2.2.2.1
abbrev gmi (G : Gl) : Nat := G.2.2.2.2
def nbw : List Cond := [.castable "BoxDrawer$Box" "BoxDrawer$Box", .castable "BoxDrawer$Box" "java/lang/Object", .castable "java/lang/IndexOutOfBoundsException" "java/lang/IndexOutOfBoundsException", .castable "java/lang/IllegalArgumentException" "java/lang/IllegalArgumentException", .castable "java/lang/IllegalStateException" "java/lang/IllegalStateException",
  .declares ⟨"java/lang/RuntimeException", "<init>", "(Ljava/lang/String;)V"⟩, .declares ⟨"java/lang/Exception", "<init>", "(Ljava/lang/String;)V"⟩, .declares ⟨"java/lang/Throwable", "<init>", "(Ljava/lang/String;)V"⟩,
  .methodLinkNest "BoxDrawer" 114 y_X_meets "BoxDrawer", .methodLinkNest "BoxDrawer" 38 y_X_init "BoxDrawer", .methodLinkNest "BoxDrawer" 161 y_X_liesIn "BoxDrawer", .methodLinkNest "BoxDrawer" 106 y_X_distanceFrom "BoxDrawer", .methodLinkNest "BoxDrawer" 134 y_X_bound "BoxDrawer", .fieldLinkNest "BoxDrawer" 82 "BoxDrawer$Box" "number" "I" "BoxDrawer"]
theorem nb_on : ∀ w ∈ nbw, w.onTables = true := by decide +kernel
theorem nb_warm {s U : State} (hW : s.WarmedH U.vm) (h : ∀ w ∈ nbw, va_Nw w s) : ∀ w ∈ nbw, va_Nw w U := by
  intro w hw
  have h1 := h w hw
  simp only [nbw, List.mem_cons, List.not_mem_nil, or_false] at hw
  rcases hw with rfl | rfl | rfl | rfl | rfl | rfl | rfl | rfl | rfl | rfl | rfl | rfl | rfl | rfl
  · exact va_Nw.warmC hW h1
  · exact va_Nw.warmC hW h1
  · exact va_Nw.warmC hW h1
  · exact va_Nw.warmC hW h1
  · exact va_Nw.warmC hW h1
  · exact va_Nw.warmD hW h1
  · exact va_Nw.warmD hW h1
  · exact va_Nw.warmD hW h1
  · exact va_Nw.warmM hW h1
  · exact va_Nw.warmM hW h1
  · exact va_Nw.warmM hW h1
  · exact va_Nw.warmM hW h1
  · exact va_Nw.warmM hW h1
  · exact va_Nw.warmF hW h1
def strs : List (Nat × String) := [(149, "no such number of a box"), (155, "not from -1000000000 to 1000000000"), (151, "a greatest bound is below its least"), (70, "what is none of 0, 1, 2"), (88, "n is none of 1 .. 4096"), (159, "the box is not there"), (157, "what is none of 0 .. 3"), (131, "no boxes"), (146, "no such place in the result")]
abbrev eN : String := "DEFAULTCAPACITY_EMPTY_ELEMENTDATA"
/-- what the start says and the run keeps -/
def Ev (G : Gl) (U : State) : Prop := va_K G.1 kls (gtys G) U ∧ va_Z "java/util/ArrayList" eN "[Ljava/lang/Object;" (.ref (ge0 G)) (gA G) U U.heap ∧ va_T (.object "java/lang/Object") (ge0 G) 0 (fun _ => .null) (gA G) U U.heap ∧
  vx_Zq Bundle.tN "UNASSIGNED_STACK" Bundle.steD (gA G) U U.heap ∧ vx_Zq Bundle.tN "SUPPRESSED_SENTINEL" Bundle.listD (gA G) U U.heap ∧ (∀ q ∈ strs, ∃ sa : Nat, vk_R "BoxDrawer" q.1 q.2 sa U) ∧ (∀ w ∈ nbw, va_Nw w U) ∧
  va_AO "java/lang/Object" U ∧ va_Mi "[Ljava/lang/Object;" (gmi G) U ∧ va_Dc U ∧ va_Nc "java/lang/IllegalArgumentException" "java/lang/IndexOutOfBoundsException" U ∧ va_Nc "java/lang/IllegalStateException" "java/lang/IndexOutOfBoundsException" U ∧ G.2.2.1 ≤ U.heap.size
theorem Ev.moved {G : Gl} {s U : State} (hW : s.WarmedH U.vm) (hz : s.heap.size ≤ U.heap.size) (hq : ∀ q : Nat, q < s.heap.size → ¬ gA G q → U.heap[q]? = s.heap[q]?) (h : Ev G s) : Ev G U := by
  obtain ⟨h1, h2, h3, h4, h5, h6, h7, h8, h9, h10, h11, h12, h13⟩ := h
  have hal := hW.alike
  exact ⟨va_K.moved hal h1, (va_Z.moved hal h2).kept hq, (va_T.moved hal h3).kept hq, (vx_Zq.moved hal h4).kept hq, (vx_Zq.moved hal h5).kept hq, fun q hq1 => by
    obtain ⟨sa, hsa⟩ := h6 q hq1
    exact ⟨sa, vk_R.warm hW hsa⟩, nb_warm hW h7, va_AO.moved hal h8, va_Mi.moved hal h9, va_Dc.moved hal h10, va_Nc.moved hal h11, va_Nc.moved hal h12, Nat.le_trans h13 hz⟩
abbrev World : Type := Nat → Option va_E
abbrev Hw (G : Gl) (w : World) (H : Heap) : Prop := Hd G.1 kls (gA G) w H
def Wo (G : Gl) (w : World) (U : State) : Prop := Ev G U ∧ Hw G w U.heap
theorem Wo.blind {G : Gl} {w : World} {as : List Value} : FrameBlind (va_Pc as (Wo G w)) := by
  intro a U g mk h
  obtain ⟨h1, h2, h3⟩ := h
  exact ⟨h1, h2.moved (State.WarmedH.refl U) (Nat.le_refl _) (fun _ _ _ => rfl), h3⟩
/-- at a call -/
theorem Wo.at {G : Gl} {w : World} {s : State} {H : Heap} {locs : List Loc} (hE : Ev G s) (hH : Hw G w H) (hS : va_S (gA G) s.heap H locs) {U : State} (hU : U.heap = H) (hW : s.WarmedH U.vm) : Wo G w U :=
  ⟨hE.moved hW (by rw [hU]; exact hS.1) (fun q h1 h2 => by rw [hU]; exact hS.2.1 q h1 h2), by rw [hU]; exact hH⟩
abbrev rmK (k mc ms : Nat) : Room := { frames := k, cells := mc, slots := ms, locals := 40 * k }
/-- what a body has in hand -/
def Cx (G : Gl) (p : Program) (s : State) (m : MethodId) (args : Array Value) (c : Code) (cc : ByteArray) (nL : Nat) (own : String) (meth : Method) : Prop :=
  p.tables.exec = Jvm.exec ∧ c.code = cc ∧ c.maxLocals = nL ∧ s.vm.findClass own = some m.cls ∧ (∀ w ∈ big, w.before args s = true) ∧ Ev G s ∧ meth.locks = false
theorem good_big {w : Cond} (h : w ∈ big) : (w.onTables && w.keeps) = true ∨ ∃ ty, w = .arrayClass ty := good_of_word (big_good h)
theorem goodIn_big {x : Cond} (h : x ∈ big) : GoodIn big (x :: big) := fun w hw => by
  rcases List.mem_cons.mp hw with rfl | hw
  · exact ⟨h, good_big h⟩
  · exact ⟨hw, good_big hw⟩
/-- a method that only reads: its answer is r, the heap stays -/
def PuQ (r : Option Value) : Array Value → State → Outcome → State → Prop := fun _ st o t => o = .returned r ∧ t.heap = st.heap
abbrev PuM (l : Launch) (y : MethodName) (ws : List Cond) (k : Nat) (G : Gl) (w : World) (as : List Value) (r : Option Value) : Prop := Met l y ws (rmK k 0 0) (va_Pc as (Wo G w)) (PuQ r) 0 0 (fun _ => False)
abbrev GnI (l : Launch) (y : MethodName) (ws : List Cond) (k mc ms : Nat) (G : Gl) (w : World) (as : List Value) (post : Int32 → World → Prop) : Prop := Met l y ws (rmK k mc ms) (va_Pc as (Wo G w)) (va_Qi post (Wo G) (gA G)) mc ms (gA G)
abbrev GnV (l : Launch) (y : MethodName) (ws : List Cond) (k mc ms : Nat) (G : Gl) (w : World) (as : List Value) (post : World → Prop) : Prop := Met l y ws (rmK k mc ms) (va_Pc as (Wo G w)) (va_Qv post (Wo G) (gA G)) mc ms (gA G)
abbrev GnQ (l : Launch) (y : MethodName) (ws : List Cond) (k mc ms : Nat) (G : Gl) (w : World) (as : List Value) (post : Option Nat → World → Prop) : Prop := Met l y ws (rmK k mc ms) (va_Pc as (Wo G w)) (va_Qq post (Wo G) (gA G)) mc ms (gA G)
def XCt (E0 : String) : String → State → State → Prop := fun E st t => E = E0 ∧ st.heap.size ≤ t.heap.size ∧ ∀ q : Nat, q < st.heap.size → t.heap[q]? = st.heap[q]?
/-- a method that throws E0, from this start -/
abbrev ThM (l : Launch) (y : MethodName) (ws : List Cond) (k : Nat) (G : Gl) (w : World) (as : List Value) (E0 : String) : Prop := vx_Met l y ws (rmK k 1 6) (va_Pc as (Wo G w)) (fun _ _ _ _ => False) (XCt E0) 1 6 (fun _ => False)
section Entries
variable {l : Launch} {y : MethodName} {cc : ByteArray} {maxL : Nat} {ret : Option FieldType} {k mc ms : Nat} {G : Gl} {w : World} {as : List Value}
theorem met_ent {Qc : Array Value → State → Outcome → State → Prop} {free : Addr → Prop} (hy : plainFor y = true) (hlen : (lg_sl as).length ≤ maxL)
    (body : ∀ (p : Program) (e : Env) (s : State) (m : MethodId) (below : List Frame) (meth : Method) (c : Code) (ls : Array Slot), Cx G p s m as.toArray c cc maxL y.cls meth → meth.sig.returnType = ret → (y.name = "<init>" → meth.name = "<init>") → Hw G w s.heap → lv_has ls maxL (lv_args 0 as) →
      W p l e (rmK k mc ms) s m as.toArray below meth c s.heap [] 0 0 (MQ below Qc as.toArray s mc ms free) (F0 m 0 ls [])) :
    Met l y (.code y cc maxL ret :: big) (rmK k mc ms) (va_Pc as (Wo G w)) Qc mc ms free := by
  refine va_MetF (cc := cc) (maxL := maxL) (ret := ret) hy rfl ?_
  intro p e s m args below meth c s₁ B hml hv
  obtain ⟨rfl, hE, hH⟩ := hv
  have hts := atoms_spec (ws := .code y cc maxL ret :: big) B.pre
  have hl := lv_entry as hlen
  rw [lg_entry_eq]
  exact body p e s m below meth c _ ⟨B.exec, B.bytes, hml, findClass_of_methodNamed B.named, fun w hw => hts w (List.mem_cons_of_mem _ hw), hE, B.notSynchronized⟩ B.returns (fun hn => by rw [(name_of_methodNamed B.named B.method).1]; exact hn) hH hl
theorem th_ent {E0 : String} (hy : plainName y.cls = true) (hlen : (lg_sl as).length ≤ maxL)
    (body : ∀ (p : Program) (e : Env) (s : State) (m : MethodId) (below : List Frame) (meth : Method) (c : Code) (ls : Array Slot), Cx G p s m as.toArray c cc maxL y.cls meth → (∀ x ∈ c.exceptionTable.toList, False) → Hw G w s.heap → lv_has ls maxL (lv_args 0 as) →
      W p l e (rmK k 1 6) s m as.toArray below meth c s.heap [] 0 0 (vx_MQ below (fun _ _ _ _ => False) (XCt E0) as.toArray s 1 6 (fun _ => False)) (F0 m 0 ls [])) :
    ThM l y (.code y cc maxL ret :: big) k G w as E0 := by
  refine vx_ofW (cc := cc) (maxL := maxL) (ret := ret) hy rfl ?_
  intro p e s m args below meth c s₁ B hml ht hv
  obtain ⟨rfl, hE, hH⟩ := hv
  have hts := atoms_spec (ws := .code y cc maxL ret :: big) B.pre
  have hl := lv_entry as hlen
  rw [lg_entry_eq]
  exact body p e s m below meth c _ ⟨B.exec, B.bytes, hml, findClass_of_methodNamed B.named, fun w hw => hts w (List.mem_cons_of_mem _ hw), hE, B.notSynchronized⟩ ht hH hl
end Entries
section CoreRows
variable {p : Program} {l : Launch} {e : Env} {R : Room} {s : State} {m : MethodId} {args : Array Value} {below : List Frame} {meth : Method} {c : Code} {H : Heap} {locs : List Loc} {cells slots : Nat} {Q : State → Prop}
variable {G : Gl} {w : World} {cc bytes : ByteArray} {nL maxL index n k mc ms : Nat} {own C host : String} {y : MethodName} {ret : Option FieldType} {ws : List Cond} {As rest st0 : List Value} {b : Nat} {pc : Nat} {ls : Array Slot} {r : Option Value}
theorem Cx.fix (C0 : Cx G p s m args c cc nL own meth) : CallFix p m c cc nL s args big own := ⟨C0.1, C0.2.1, C0.2.2.1, C0.2.2.2.1, C0.2.2.2.2.1⟩
theorem Cx.ev (C0 : Cx G p s m args c cc nL own meth) : Ev G s := C0.2.2.2.2.2.1
theorem Cx.hK (C0 : Cx G p s m args c cc nL own meth) : va_K G.1 kls (gtys G) s := C0.ev.1
theorem pu_goon {as0 : Array Value} (hr : va_Run p l e R s m args below meth c H locs cells slots 0 0 (F0 m pc ls st0) rest (PuQ r as0) (fun _ => False))
    (kk : W p l e R s m args below meth c H locs cells slots Q (F0 m (pc + 3) ls (r.toList ++ rest))) : W p l e R s m args below meth c H locs cells slots Q (F0 m pc ls st0) := by
  intro T hT X
  obtain ⟨v, st₀, t, T', L, h0, X', hL, e1, e2, ⟨hv, hh⟩, st⟩ := hr T hT X
  cases hv
  have hn : L = [] := List.eq_nil_iff_forall_not_mem.mpr (fun q hq => hL q hq)
  subst hn
  rw [List.append_nil] at X'
  obtain ⟨t2, a1, b1⟩ := kk T' (by rw [e1, hh, h0]) X'
  exact ⟨t2, st t2 a1, b1⟩
theorem gn_i {as0 : Array Value} {post : Int32 → World → Prop} (hr : va_Run p l e R s m args below meth c H locs cells slots mc ms (F0 m pc ls st0) rest (va_Qi post (Wo G) (gA G) as0) (gA G)) (hS : va_S (gA G) s.heap H locs)
    (kk : ∀ (r : Int32) (w' : World) (H1 : Heap) (locs1 : List Loc), post r w' → Hw G w' H1 → va_S (gA G) s.heap H1 locs1 → W p l e R s m args below meth c H1 locs1 (cells + mc) (slots + ms) Q (F0 m (pc + 3) ls (.int r :: rest))) : W p l e R s m args below meth c H locs cells slots Q (F0 m pc ls st0) :=
  va_calli hr hS (fun _ _ h => h) (fun _ h => h) (fun r u t H1 locs1 ht _ hp hB _ _ hS1 => kk r u H1 locs1 hp (by rw [← ht]; exact hB.2) hS1)
theorem gn_v {as0 : Array Value} {post : World → Prop} (hr : va_Run p l e R s m args below meth c H locs cells slots mc ms (F0 m pc ls st0) rest (va_Qv post (Wo G) (gA G) as0) (gA G)) (hS : va_S (gA G) s.heap H locs)
    (kk : ∀ (w' : World) (H1 : Heap) (locs1 : List Loc), post w' → Hw G w' H1 → va_S (gA G) s.heap H1 locs1 → W p l e R s m args below meth c H1 locs1 (cells + mc) (slots + ms) Q (F0 m (pc + 3) ls rest)) : W p l e R s m args below meth c H locs cells slots Q (F0 m pc ls st0) :=
  va_callv hr hS (fun _ _ h => h) (fun _ h => h) (fun u t H1 locs1 ht _ hp hB _ _ hS1 => kk u H1 locs1 hp (by rw [← ht]; exact hB.2) hS1)
theorem gn_q {as0 : Array Value} {post : Option Nat → World → Prop} (hr : va_Run p l e R s m args below meth c H locs cells slots mc ms (F0 m pc ls st0) rest (va_Qq post (Wo G) (gA G) as0) (gA G)) (hS : va_S (gA G) s.heap H locs)
    (kk : ∀ (r : Option Nat) (w' : World) (H1 : Heap) (locs1 : List Loc), post r w' → Hw G w' H1 → va_S (gA G) s.heap H1 locs1 → W p l e R s m args below meth c H1 locs1 (cells + mc) (slots + ms) Q (F0 m (pc + 3) ls (va_rf r :: rest))) : W p l e R s m args below meth c H locs cells slots Q (F0 m pc ls st0) :=
  va_callq hr hS (fun _ _ h => h) (fun _ h => h) (fun r u t H1 locs1 ht _ hp hB _ _ hS1 => kk r u H1 locs1 hp (by rw [← ht]; exact hB.2) hS1)
variable {Qc : Array Value → State → Outcome → State → Prop} {free : Addr → Prop}
theorem runV (C0 : Cx G p s m args c cc nL own meth) (hM : Met l y ws (rmK k mc ms) (va_Pc (.ref b :: As) (Wo G w)) Qc mc ms free) (cw : CallW R s args own C index y bytes maxL ret ws (rmK k mc ms) mc ms n) (hH : Hw G w H) (hS : va_S (gA G) s.heap H locs)
    (hr : ∃ cellB : Cell, H[b]? = some cellB ∧ cellB.vm.isStatics = false ∧ s.vm.findClass C = some cellB.cls) (hn : As.length = n) (hsize : ls.size = nL) (hstack : st0 = As.reverse ++ .ref b :: rest) (hW : 2 * (F0 m pc ls st0).monitorRoom + (rest.map fun v => v.category).sum ≤ 8) (hdg : decode cc pc = .ok (.invokevirtual index, 3)) (hf : cells + mc ≤ R.cells ∧ slots + ms ≤ R.slots) :
    va_Run p l e R s m args below meth c H locs cells slots mc ms (F0 m pc ls st0) rest (Qc (.ref b :: As).toArray) free :=
  va_runV C0.fix hM cw ⟨Wo.blind, hr, fun U hU hWU => ⟨rfl, Wo.at C0.ev hH hS hU hWU⟩⟩ rfl hn hsize hstack hW hdg hf
theorem runS (C0 : Cx G p s m args c cc nL own meth) (hM : Met l y ws (rmK k mc ms) (va_Pc As (Wo G w)) Qc mc ms free) (cw : CallB R s args own index y bytes maxL ret ws (rmK k mc ms) mc ms n ∧ (Cond.static y).before args s = true) (hH : Hw G w H) (hS : va_S (gA G) s.heap H locs)
    (hn : As.length = n) (hsize : ls.size = nL) (hstack : st0 = As.reverse ++ rest) (hW : 2 * (F0 m pc ls st0).monitorRoom + (rest.map fun v => v.category).sum ≤ 8) (hdg : decode cc pc = .ok (.invokestatic index, 3)) (hf : cells + mc ≤ R.cells ∧ slots + ms ≤ R.slots) :
    va_Run p l e R s m args below meth c H locs cells slots mc ms (F0 m pc ls st0) rest (Qc As.toArray) free :=
  va_runS C0.fix hM cw ⟨Wo.blind, fun U hU hWU => ⟨rfl, Wo.at C0.ev hH hS hU hWU⟩⟩ rfl hn hsize hstack hW hdg hf
theorem runI (C0 : Cx G p s m args c cc nL own meth) (hM : Met l y ws (rmK k mc ms) (va_Pc (.ref b :: As) (Wo G w)) Qc mc ms free) (cw : CallB R s args own index y bytes maxL none ws (rmK k mc ms) mc ms n ∧ y.name = "<init>" ∧ (Cond.instanceMethod y).before args s = true) (hH : Hw G w H) (hS : va_S (gA G) s.heap H locs)
    (hn : As.length = n) (hsize : ls.size = nL) (hstack : st0 = As.reverse ++ .ref b :: rest) (hW : 2 * (F0 m pc ls st0).monitorRoom + (rest.map fun v => v.category).sum ≤ 8) (hdg : decode cc pc = .ok (.invokespecial index, 3)) (hf : cells + mc ≤ R.cells ∧ slots + ms ≤ R.slots) :
    va_Run p l e R s m args below meth c H locs cells slots mc ms (F0 m pc ls st0) rest (Qc (.ref b :: As).toArray) free :=
  va_runI C0.fix hM cw ⟨Wo.blind, fun U hU hWU => ⟨rfl, Wo.at C0.ev hH hS hU hWU⟩⟩ rfl hn hsize hstack hW hdg hf
theorem runVN (C0 : Cx G p s m args c cc nL own meth) (hM : Met l y ws (rmK k mc ms) (va_Pc (.ref b :: As) (Wo G w)) Qc mc ms free) (cw : va_CN R s args own index y host bytes maxL ret ws (rmK k mc ms) mc ms n ∧ (Cond.instanceMethod y).before args s = true ∧ (Cond.selects C y y).before args s = true) (hH : Hw G w H) (hS : va_S (gA G) s.heap H locs)
    (hr : ∃ cellB : Cell, H[b]? = some cellB ∧ cellB.vm.isStatics = false ∧ s.vm.findClass C = some cellB.cls) (hn : As.length = n) (hsize : ls.size = nL) (hstack : st0 = As.reverse ++ .ref b :: rest) (hW : 2 * (F0 m pc ls st0).monitorRoom + (rest.map fun v => v.category).sum ≤ 8) (hdg : decode cc pc = .ok (.invokevirtual index, 3)) (hf : cells + mc ≤ R.cells ∧ slots + ms ≤ R.slots) :
    va_Run p l e R s m args below meth c H locs cells slots mc ms (F0 m pc ls st0) rest (Qc (.ref b :: As).toArray) free :=
  va_runVN C0.fix hM cw ⟨Wo.blind, hr, fun U hU hWU => ⟨rfl, Wo.at C0.ev hH hS hU hWU⟩⟩ rfl hn hsize hstack hW hdg hf
theorem runIN (C0 : Cx G p s m args c cc nL own meth) (hM : Met l y ws (rmK k mc ms) (va_Pc (.ref b :: As) (Wo G w)) Qc mc ms free) (cw : va_CN R s args own index y host bytes maxL none ws (rmK k mc ms) mc ms n ∧ y.name = "<init>" ∧ (Cond.instanceMethod y).before args s = true) (hH : Hw G w H) (hS : va_S (gA G) s.heap H locs)
    (hn : As.length = n) (hsize : ls.size = nL) (hstack : st0 = As.reverse ++ .ref b :: rest) (hW : 2 * (F0 m pc ls st0).monitorRoom + (rest.map fun v => v.category).sum ≤ 8) (hdg : decode cc pc = .ok (.invokespecial index, 3)) (hf : cells + mc ≤ R.cells ∧ slots + ms ≤ R.slots) :
    va_Run p l e R s m args below meth c H locs cells slots mc ms (F0 m pc ls st0) rest (Qc (.ref b :: As).toArray) free :=
  va_runIN C0.fix hM cw ⟨Wo.blind, fun U hU hWU => ⟨rfl, Wo.at C0.ev hH hS hU hWU⟩⟩ rfl hn hsize hstack hW hdg hf
theorem cB (C0 : Cx G p s m args c cc nL own meth) (h1 : Cond.code y bytes maxL ret ∈ big) (h2 : Cond.methodLink own index y ∈ big) (h5 : Cond.initialized y.cls ∈ big)
    (hd : y.cls ≠ "java/lang/invoke/MethodHandle" ∧ y.cls ≠ "java/lang/invoke/VarHandle" ∧ (parseMethodDescriptor y.desc).map (fun d => d.parameters.length) = some n) (hR : k + 1 ≤ R.frames ∧ 8 + (maxL + 11) + 40 * k ≤ R.locals) :
    CallB R s args own index y bytes maxL ret (.code y bytes maxL ret :: big) (rmK k mc ms) mc ms n :=
  callB_of n C0.2.2.2.2.1 (goodIn_big h1) rfl rfl rfl (C0.2.2.2.2.1 _ h5) (C0.2.2.2.2.1 _ h2) hd hR
theorem cN (C0 : Cx G p s m args c cc nL own meth) (h1 : Cond.code y bytes maxL ret ∈ big) (h2 : Cond.methodLinkNest own index y host ∈ nbw) (h5 : Cond.initialized y.cls ∈ big)
    (hd : y.cls ≠ "java/lang/invoke/MethodHandle" ∧ y.cls ≠ "java/lang/invoke/VarHandle" ∧ (parseMethodDescriptor y.desc).map (fun d => d.parameters.length) = some n) (hR : k + 1 ≤ R.frames ∧ 8 + (maxL + 11) + 40 * k ≤ R.locals) :
    va_CN R s args own index y host bytes maxL ret (.code y bytes maxL ret :: big) (rmK k mc ms) mc ms n :=
  va_cnB n C0.2.2.2.2.1 (goodIn_big h1) rfl rfl rfl (C0.ev.2.2.2.2.2.2.1 _ h2) (C0.2.2.2.2.1 _ h5) hd hR
/-- a call that throws -/
theorem th_goon {E0 : String} (hr : vx_Run p l e R s m args below meth c H locs cells slots 1 6 (F0 m pc ls st0) rest (fun _ _ _ => False) (XCt E0) (fun _ => False))
    (kx : ∀ (H1 : Heap) (q9 : Addr) (ce : Cell), H1[q9]? = some ce → ce.vm = .none → s.vm.findClass E0 = some ce.cls → H.size ≤ H1.size → (∀ q : Nat, q < H.size → H1[q]? = H[q]?) → vx_W p l e R s m args below meth c H1 locs (cells + 1) (slots + 6) Q (F0 m pc ls rest) q9) : W p l e R s m args below meth c H locs cells slots Q (F0 m pc ls st0) := by
  intro T hT X
  rcases hr T hT X with ⟨v, st₀, t, T', L, h0, X', hL, e1, e2, hf, st⟩ | ⟨q, st₀, t, T', L, E, ce, h0, X', hL, e1, e2, ⟨rfl, hz, hk⟩, hce, hcv, hcl, st⟩
  · exact hf.elim
  · have hn : L = [] := List.eq_nil_iff_forall_not_mem.mpr (fun q hq => hL q hq)
    subst hn
    rw [List.append_nil] at X'
    rw [h0] at hz hk
    obtain ⟨t2, a1, b1⟩ := kx T'.heap q ce (by rw [e1]; exact hce) hcv hcl (by rw [e1]; exact hz) (fun q h => by rw [e1]; exact hk q h) T' rfl X'
    exact ⟨t2, st.trans a1, b1⟩
/-- .. out of a method that has done nothing yet -/
theorem th_out {E0 : String} (ht : ∀ x ∈ c.exceptionTable.toList, False) (hlocks : meth.locks = false) (hr : vx_Run p l e R s m args below meth c s.heap [] 0 0 1 6 (F0 m pc ls st0) rest (fun _ _ _ => False) (XCt E0) (fun _ => False)) :
    W p l e R s m args below meth c s.heap [] 0 0 (vx_MQ below (fun _ _ _ _ => False) (XCt E0) args s 1 6 (fun _ => False)) (F0 m pc ls st0) :=
  th_goon hr (fun H1 q9 ce h1 h2 h3 h4 h5 => vx_out (fun x hx => (ht x hx).elim) hlocks h1 h2 h3 (fun t ht _ => ⟨rfl, by rw [ht]; exact h4, fun q hq => by rw [ht]; exact h5 q hq⟩) (fun _ h => by cases h) (by omega) (by omega))
theorem xrunS {E0 : String} (C0 : Cx G p s m args c cc nL own meth) (hM : ThM l y ws k G w As E0) (cw : CallB R s args own index y bytes maxL ret ws (rmK k 1 6) 1 6 n ∧ (Cond.static y).before args s = true) (hH : Hw G w H) (hS : va_S (gA G) s.heap H locs)
    (hn : As.length = n) (hsize : ls.size = nL) (hstack : st0 = As.reverse ++ rest) (hW : 2 * (F0 m pc ls st0).monitorRoom + (rest.map fun v => v.category).sum ≤ 8) (hdg : decode cc pc = .ok (.invokestatic index, 3)) (hf : cells + 1 ≤ R.cells ∧ slots + 6 ≤ R.slots) :
    vx_Run p l e R s m args below meth c H locs cells slots 1 6 (F0 m pc ls st0) rest (fun _ _ _ => False) (XCt E0) (fun _ => False) :=
  vx_runS C0.fix hM cw ⟨Wo.blind, fun U hU hWU => ⟨rfl, Wo.at C0.ev hH hS hU hWU⟩⟩ rfl hn hsize hstack hW hdg hf
theorem xrunV {E0 : String} (C0 : Cx G p s m args c cc nL own meth) (hM : ThM l y ws k G w (.ref b :: As) E0) (cw : CallW R s args own C index y bytes maxL ret ws (rmK k 1 6) 1 6 n) (hH : Hw G w H) (hS : va_S (gA G) s.heap H locs)
    (hr : ∃ cellB : Cell, H[b]? = some cellB ∧ cellB.vm.isStatics = false ∧ s.vm.findClass C = some cellB.cls) (hn : As.length = n) (hsize : ls.size = nL) (hstack : st0 = As.reverse ++ .ref b :: rest) (hW : 2 * (F0 m pc ls st0).monitorRoom + (rest.map fun v => v.category).sum ≤ 8) (hdg : decode cc pc = .ok (.invokevirtual index, 3)) (hf : cells + 1 ≤ R.cells ∧ slots + 6 ≤ R.slots) :
    vx_Run p l e R s m args below meth c H locs cells slots 1 6 (F0 m pc ls st0) rest (fun _ _ _ => False) (XCt E0) (fun _ => False) :=
  vx_runV C0.fix hM cw ⟨Wo.blind, hr, fun U hU hWU => ⟨rfl, Wo.at C0.ev hH hS hU hWU⟩⟩ rfl hn hsize hstack hW hdg hf
/-- throw new E("..") in BoxDrawer, nothing done yet -/
theorem th_throw {E0 text : String} {ik is ic : Nat} (hl : l.stackTraces = false) (C0 : Cx G p s m args c cc nL "BoxDrawer" meth) (hcls : Bundle.fit E0 = true) (h1 : Cond.classLink "BoxDrawer" ik E0 ∈ big) (h2 : Cond.initialized E0 ∈ big)
    (hat : ∀ w ∈ vx_atS "BoxDrawer" ic E0 ["java/lang/RuntimeException", "java/lang/Exception"], w ∈ big ∨ w ∈ nbw) (hgood : ∀ w ∈ Cond.classLink "BoxDrawer" ik E0 :: Cond.initialized E0 :: vx_atS "BoxDrawer" ic E0 ["java/lang/RuntimeException", "java/lang/Exception"], vx_ot w = true)
    (hst : (is, text) ∈ strs) (hsize : ls.size = nL)
    (d0 : decode cc pc = .ok (.new ik, 3)) (d3 : decode cc (pc + 3) = .ok (.dup, 1)) (d4 : decode cc (pc + 4) = .ok (.ldc is, 2)) (d6 : decode cc (pc + 6) = .ok (.invokespecial ic, 3)) (d9 : decode cc (pc + 9) = .ok (.athrow, 1))
    (ht : ∀ x ∈ c.exceptionTable.toList, False) (hk : 6 ≤ k) :
    W p l e (rmK k 1 6) s m args below meth c s.heap [] 0 0 (vx_MQ below (fun _ _ _ _ => False) (XCt E0) args s 1 6 (fun _ => False)) (F0 m pc ls []) := by
  obtain ⟨hx, hb, hml, hown, hts, hE, hlocks⟩ := C0
  obtain ⟨-, -, -, h4, h5, h6, h7, -⟩ := hE
  obtain ⟨sa, hsa⟩ := h6 _ hst
  refine vx_throwS (own := "BoxDrawer") (names := ["java/lang/RuntimeException", "java/lang/Exception"]) (sa := sa) (A := gA G) hx hb hl hown hcls (by decide +kernel) (hts _ h1) (hts _ h2) hsa (fun w hw => ?_) hgood h4 h5 va_S.rf (hsize.trans hml.symm) d0 d3 d4 d6 d9 (fun x hx => (ht x hx).elim) ?_ ?_ (Nat.le_refl _) (Nat.le_refl _) hlocks (fun t _ hz hq => ⟨rfl, hz, hq⟩) (fun _ h => by cases h) (Nat.le_refl _) (Nat.le_refl _)
  · rcases hat w hw with h | h
    · exact hts w h
    · exact va_Nw.use (nb_on w h) (h7 w h)
  · show 2 + 3 < k
    omega
  · show 0 + (13 * (2 + 1) + 43) ≤ 40 * k
    omega
end CoreRows
