section
-- ===== PART A: goes FIRST, ahead of the names: the tables' words, and 'selects' of the private methods out of them =====
/-- a private method of a class that the tables say can be made, by its rows of tables_1 -/
def lw_okq (q : MethodName × Nat) : Prop := (q.1.cls ≠ "java/lang/invoke/MethodHandle" ∧ q.1.cls ≠ "java/lang/invoke/VarHandle") ∧ Cond.instantiable q.1.cls q.2 ∈ tables_1 ∧ Cond.privateMethod q.1 ∈ tables_1 ∧ Cond.instanceMethod q.1 ∈ tables_1
theorem lw_p0 : lw_okq (⟨"BoxDrawer$Box", "meets", "(LBoxDrawer$Box;)Z"⟩, 5) := ⟨⟨by decide +kernel, by decide +kernel⟩, List.mem_of_getElem? (i := 108) (by decide +kernel), List.mem_of_getElem? (i := 106) (by decide +kernel), List.mem_of_getElem? (i := 107) (by decide +kernel)⟩
theorem lw_p1 : lw_okq (⟨"BoxDrawer", "append", "(I)V"⟩, 4) := ⟨⟨by decide +kernel, by decide +kernel⟩, List.mem_of_getElem? (i := 26) (by decide +kernel), List.mem_of_getElem? (i := 111) (by decide +kernel), List.mem_of_getElem? (i := 112) (by decide +kernel)⟩
theorem lw_p2 : lw_okq (⟨"BoxDrawer", "makeRoom", "(I)V"⟩, 4) := ⟨⟨by decide +kernel, by decide +kernel⟩, List.mem_of_getElem? (i := 26) (by decide +kernel), List.mem_of_getElem? (i := 115) (by decide +kernel), List.mem_of_getElem? (i := 116) (by decide +kernel)⟩
theorem lw_p3 : lw_okq (⟨"java/lang/Throwable", "fillInStackTrace", "(I)Ljava/lang/Throwable;"⟩, 6) := ⟨⟨by decide +kernel, by decide +kernel⟩, List.mem_of_getElem? (i := 193) (by decide +kernel), List.mem_of_getElem? (i := 191) (by decide +kernel), List.mem_of_getElem? (i := 192) (by decide +kernel)⟩
theorem lw_p4 : lw_okq (⟨"BoxDrawer", "indexFor", "(I)I"⟩, 4) := ⟨⟨by decide +kernel, by decide +kernel⟩, List.mem_of_getElem? (i := 26) (by decide +kernel), List.mem_of_getElem? (i := 269) (by decide +kernel), List.mem_of_getElem? (i := 270) (by decide +kernel)⟩
theorem lw_p5 : lw_okq (⟨"BoxDrawer", "isAt", "(II)Z"⟩, 4) := ⟨⟨by decide +kernel, by decide +kernel⟩, List.mem_of_getElem? (i := 26) (by decide +kernel), List.mem_of_getElem? (i := 273) (by decide +kernel), List.mem_of_getElem? (i := 274) (by decide +kernel)⟩
theorem lw_p6 : lw_okq (⟨"java/util/ArrayList", "rangeCheckForAdd", "(I)V"⟩, 3) := ⟨⟨by decide +kernel, by decide +kernel⟩, List.mem_of_getElem? (i := 34) (by decide +kernel), List.mem_of_getElem? (i := 285) (by decide +kernel), List.mem_of_getElem? (i := 286) (by decide +kernel)⟩
theorem lw_p7 : lw_okq (⟨"java/util/ArrayList", "outOfBoundsMsg", "(I)Ljava/lang/String;"⟩, 3) := ⟨⟨by decide +kernel, by decide +kernel⟩, List.mem_of_getElem? (i := 34) (by decide +kernel), List.mem_of_getElem? (i := 290) (by decide +kernel), List.mem_of_getElem? (i := 291) (by decide +kernel)⟩
theorem lw_p8 : lw_okq (⟨"java/util/ArrayList", "grow", "()[Ljava/lang/Object;"⟩, 3) := ⟨⟨by decide +kernel, by decide +kernel⟩, List.mem_of_getElem? (i := 34) (by decide +kernel), List.mem_of_getElem? (i := 531) (by decide +kernel), List.mem_of_getElem? (i := 532) (by decide +kernel)⟩
theorem lw_p9 : lw_okq (⟨"java/util/ArrayList", "grow", "(I)[Ljava/lang/Object;"⟩, 3) := ⟨⟨by decide +kernel, by decide +kernel⟩, List.mem_of_getElem? (i := 34) (by decide +kernel), List.mem_of_getElem? (i := 535) (by decide +kernel), List.mem_of_getElem? (i := 536) (by decide +kernel)⟩
theorem lw_p10 : lw_okq (⟨"java/util/ArrayList", "fastRemove", "([Ljava/lang/Object;I)V"⟩, 3) := ⟨⟨by decide +kernel, by decide +kernel⟩, List.mem_of_getElem? (i := 34) (by decide +kernel), List.mem_of_getElem? (i := 576) (by decide +kernel), List.mem_of_getElem? (i := 577) (by decide +kernel)⟩
theorem lw_p11 : lw_okq (⟨"BoxDrawer$Box", "liesIn", "(LBoxDrawer$Box;)Z"⟩, 5) := ⟨⟨by decide +kernel, by decide +kernel⟩, List.mem_of_getElem? (i := 108) (by decide +kernel), List.mem_of_getElem? (i := 591) (by decide +kernel), List.mem_of_getElem? (i := 592) (by decide +kernel)⟩
theorem lw_p12 : lw_okq (⟨"BoxDrawer", "makeRoomForDistances", "()V"⟩, 4) := ⟨⟨by decide +kernel, by decide +kernel⟩, List.mem_of_getElem? (i := 26) (by decide +kernel), List.mem_of_getElem? (i := 603) (by decide +kernel), List.mem_of_getElem? (i := 604) (by decide +kernel)⟩
theorem lw_p13 : lw_okq (⟨"BoxDrawer$Box", "distanceFrom", "(II)J"⟩, 5) := ⟨⟨by decide +kernel, by decide +kernel⟩, List.mem_of_getElem? (i := 108) (by decide +kernel), List.mem_of_getElem? (i := 607) (by decide +kernel), List.mem_of_getElem? (i := 608) (by decide +kernel)⟩
theorem lw_p14 : lw_okq (⟨"BoxDrawer", "insertByDistance", "(IJI)V"⟩, 4) := ⟨⟨by decide +kernel, by decide +kernel⟩, List.mem_of_getElem? (i := 26) (by decide +kernel), List.mem_of_getElem? (i := 614) (by decide +kernel), List.mem_of_getElem? (i := 615) (by decide +kernel)⟩
theorem lw_p15 : lw_okq (⟨"BoxDrawer", "indexBehind", "(J)I"⟩, 4) := ⟨⟨by decide +kernel, by decide +kernel⟩, List.mem_of_getElem? (i := 26) (by decide +kernel), List.mem_of_getElem? (i := 618) (by decide +kernel), List.mem_of_getElem? (i := 619) (by decide +kernel)⟩
def lw_privs_1 : List (MethodName × Nat) := [(⟨"BoxDrawer$Box", "meets", "(LBoxDrawer$Box;)Z"⟩, 5), (⟨"BoxDrawer", "append", "(I)V"⟩, 4), (⟨"BoxDrawer", "makeRoom", "(I)V"⟩, 4), (⟨"java/lang/Throwable", "fillInStackTrace", "(I)Ljava/lang/Throwable;"⟩, 6), (⟨"BoxDrawer", "indexFor", "(I)I"⟩, 4), (⟨"BoxDrawer", "isAt", "(II)Z"⟩, 4), (⟨"java/util/ArrayList", "rangeCheckForAdd", "(I)V"⟩, 3), (⟨"java/util/ArrayList", "outOfBoundsMsg", "(I)Ljava/lang/String;"⟩, 3), (⟨"java/util/ArrayList", "grow", "()[Ljava/lang/Object;"⟩, 3), (⟨"java/util/ArrayList", "grow", "(I)[Ljava/lang/Object;"⟩, 3), (⟨"java/util/ArrayList", "fastRemove", "([Ljava/lang/Object;I)V"⟩, 3), (⟨"BoxDrawer$Box", "liesIn", "(LBoxDrawer$Box;)Z"⟩, 5), (⟨"BoxDrawer", "makeRoomForDistances", "()V"⟩, 4), (⟨"BoxDrawer$Box", "distanceFrom", "(II)J"⟩, 5), (⟨"BoxDrawer", "insertByDistance", "(IJI)V"⟩, 4), (⟨"BoxDrawer", "indexBehind", "(J)I"⟩, 4)]
theorem lw_r1 : ∀ q ∈ lw_privs_1, lw_okq q := List.forall_mem_cons.mpr ⟨lw_p0, List.forall_mem_cons.mpr ⟨lw_p1, List.forall_mem_cons.mpr ⟨lw_p2, List.forall_mem_cons.mpr ⟨lw_p3, List.forall_mem_cons.mpr ⟨lw_p4, List.forall_mem_cons.mpr ⟨lw_p5, List.forall_mem_cons.mpr ⟨lw_p6, List.forall_mem_cons.mpr ⟨lw_p7, List.forall_mem_cons.mpr ⟨lw_p8, List.forall_mem_cons.mpr ⟨lw_p9, List.forall_mem_cons.mpr ⟨lw_p10, List.forall_mem_cons.mpr ⟨lw_p11, List.forall_mem_cons.mpr ⟨lw_p12, List.forall_mem_cons.mpr ⟨lw_p13, List.forall_mem_cons.mpr ⟨lw_p14, List.forall_mem_cons.mpr ⟨lw_p15, fun _ h => absurd h List.not_mem_nil⟩⟩⟩⟩⟩⟩⟩⟩⟩⟩⟩⟩⟩⟩⟩⟩
theorem lw_p16 : lw_okq (⟨"BoxDrawer", "requireBox", "(I)LBoxDrawer$Box;"⟩, 4) := ⟨⟨by decide +kernel, by decide +kernel⟩, List.mem_of_getElem? (i := 26) (by decide +kernel), List.mem_of_getElem? (i := 630) (by decide +kernel), List.mem_of_getElem? (i := 631) (by decide +kernel)⟩
theorem lw_p17 : lw_okq (⟨"BoxDrawer$Box", "bound", "(I)I"⟩, 5) := ⟨⟨by decide +kernel, by decide +kernel⟩, List.mem_of_getElem? (i := 108) (by decide +kernel), List.mem_of_getElem? (i := 667) (by decide +kernel), List.mem_of_getElem? (i := 668) (by decide +kernel)⟩
theorem lw_p18 : lw_okq (⟨"BoxDrawerModel", "fail", "(I)I"⟩, 8) := ⟨⟨by decide +kernel, by decide +kernel⟩, List.mem_of_getElem? (i := 689) (by decide +kernel), List.mem_of_getElem? (i := 732) (by decide +kernel), List.mem_of_getElem? (i := 733) (by decide +kernel)⟩
theorem lw_p19 : lw_okq (⟨"BoxDrawerModel", "many", "()I"⟩, 8) := ⟨⟨by decide +kernel, by decide +kernel⟩, List.mem_of_getElem? (i := 689) (by decide +kernel), List.mem_of_getElem? (i := 752) (by decide +kernel), List.mem_of_getElem? (i := 753) (by decide +kernel)⟩
theorem lw_p20 : lw_okq (⟨"BoxDrawerModel", "meets", "(IIIII)Z"⟩, 8) := ⟨⟨by decide +kernel, by decide +kernel⟩, List.mem_of_getElem? (i := 689) (by decide +kernel), List.mem_of_getElem? (i := 760) (by decide +kernel), List.mem_of_getElem? (i := 761) (by decide +kernel)⟩
theorem lw_p21 : lw_okq (⟨"BoxDrawerModel", "lies", "(IIIII)Z"⟩, 8) := ⟨⟨by decide +kernel, by decide +kernel⟩, List.mem_of_getElem? (i := 689) (by decide +kernel), List.mem_of_getElem? (i := 764) (by decide +kernel), List.mem_of_getElem? (i := 765) (by decide +kernel)⟩
theorem lw_p22 : lw_okq (⟨"BoxDrawerModel", "has", "(IIIII)Z"⟩, 8) := ⟨⟨by decide +kernel, by decide +kernel⟩, List.mem_of_getElem? (i := 689) (by decide +kernel), List.mem_of_getElem? (i := 768) (by decide +kernel), List.mem_of_getElem? (i := 769) (by decide +kernel)⟩
theorem lw_p23 : lw_okq (⟨"BoxDrawerModel", "away", "(III)J"⟩, 8) := ⟨⟨by decide +kernel, by decide +kernel⟩, List.mem_of_getElem? (i := 689) (by decide +kernel), List.mem_of_getElem? (i := 777) (by decide +kernel), List.mem_of_getElem? (i := 778) (by decide +kernel)⟩
theorem lw_p24 : lw_okq (⟨"BoxDrawerModel", "isThere", "(I)Z"⟩, 8) := ⟨⟨by decide +kernel, by decide +kernel⟩, List.mem_of_getElem? (i := 689) (by decide +kernel), List.mem_of_getElem? (i := 792) (by decide +kernel), List.mem_of_getElem? (i := 793) (by decide +kernel)⟩
theorem lw_p25 : lw_okq (⟨"BoxDrawerModel", "bound", "(II)I"⟩, 8) := ⟨⟨by decide +kernel, by decide +kernel⟩, List.mem_of_getElem? (i := 689) (by decide +kernel), List.mem_of_getElem? (i := 800) (by decide +kernel), List.mem_of_getElem? (i := 801) (by decide +kernel)⟩
def lw_privs_2 : List (MethodName × Nat) := [(⟨"BoxDrawer", "requireBox", "(I)LBoxDrawer$Box;"⟩, 4), (⟨"BoxDrawer$Box", "bound", "(I)I"⟩, 5), (⟨"BoxDrawerModel", "fail", "(I)I"⟩, 8), (⟨"BoxDrawerModel", "many", "()I"⟩, 8), (⟨"BoxDrawerModel", "meets", "(IIIII)Z"⟩, 8), (⟨"BoxDrawerModel", "lies", "(IIIII)Z"⟩, 8), (⟨"BoxDrawerModel", "has", "(IIIII)Z"⟩, 8), (⟨"BoxDrawerModel", "away", "(III)J"⟩, 8), (⟨"BoxDrawerModel", "isThere", "(I)Z"⟩, 8), (⟨"BoxDrawerModel", "bound", "(II)I"⟩, 8)]
theorem lw_r2 : ∀ q ∈ lw_privs_2, lw_okq q := List.forall_mem_cons.mpr ⟨lw_p16, List.forall_mem_cons.mpr ⟨lw_p17, List.forall_mem_cons.mpr ⟨lw_p18, List.forall_mem_cons.mpr ⟨lw_p19, List.forall_mem_cons.mpr ⟨lw_p20, List.forall_mem_cons.mpr ⟨lw_p21, List.forall_mem_cons.mpr ⟨lw_p22, List.forall_mem_cons.mpr ⟨lw_p23, List.forall_mem_cons.mpr ⟨lw_p24, List.forall_mem_cons.mpr ⟨lw_p25, fun _ h => absurd h List.not_mem_nil⟩⟩⟩⟩⟩⟩⟩⟩⟩⟩
def lw_privs : List (MethodName × Nat) := lw_privs_1 ++ (lw_privs_2)
def lw_tbl : List Cond := k2_sels lw_privs ++ tables_1
theorem lw_privs_ok : ∀ q ∈ lw_privs, lw_okq q := by
  show ∀ q ∈ lw_privs_1 ++ (lw_privs_2), lw_okq q
  exact List.forall_mem_append.mpr ⟨lw_r1, lw_r2⟩
end
section
/-! ===== BEGIN words of one list among another's, by their places ===== -/
theorem goodIn_r {big : List Cond} (ws : List Cond) (ps : List Nat) (hp : ws = ps.filterMap (fun i => big[i]?)) (h : ws.all goodWord = true) : GoodIn big ws := by
  intro w hw
  have h1 := List.all_eq_true.mp h w hw
  rw [hp] at hw
  obtain ⟨i, -, hi⟩ := List.mem_filterMap.mp hw
  have hm : w ∈ big := by first | exact List.mem_of_getElem? hi | exact List.getElem?_mem hi
  exact ⟨hm, good_of_word h1⟩
theorem goodIn_app {big a b : List Cond} (ha : GoodIn big a) (hb : GoodIn big b) : GoodIn big (a ++ b) := fun w h => (List.mem_append.mp h).elim (ha w) (hb w)
theorem goodIn_ca {big a b : List Cond} {c : Cond} (ha : GoodIn big (c :: a)) (hb : GoodIn big b) : GoodIn big (c :: (a ++ b)) := fun w h => (List.mem_cons.mp h).elim (fun e => ha w (List.mem_cons.mpr (Or.inl e))) (fun h => (List.mem_append.mp h).elim (fun h => ha w (List.mem_cons.mpr (Or.inr h))) (hb w))
theorem goodIn_sub {big ws : List Cond} (hm : ∀ w ∈ ws, w ∈ big) (h : ws.all goodWord = true) : GoodIn big ws := fun w hw => ⟨hm w hw, good_of_word (List.all_eq_true.mp h w hw)⟩
/-! ===== END ===== -/

/-! ===== BEGIN exceptions that leave a method, and their catching by the caller (launches without stack traces) ===== -/
section VXA
/-! The laws vx_back, vx_callV, vx_callS, vx_callSW, vx_throw0, vx_throwS follow proofs of the library, with one case more: JvmDerived/Free/Laws.lean (Back.of_free), Shelf42/LK1.lean (callV, callS), Shelf/KitTraced.lean (throwNew0V, throwNewS). -/
/-- where a method has thrown q: the class by its name, the cell, what was written, the world -/
def vx_T (XC : String → State → State → Prop) (st : State) (q : Addr) (t : State) (mc ms : Nat) (free : Addr → Prop) : Prop :=
  ∃ (E : String) (ce : Cell) (L : List Loc), XC E st t ∧ t.heap[q]? = some ce ∧ ce.vm = .none ∧ st.vm.findClass E = some ce.cls ∧ st.WarmedH t.vm ∧ st.sameButNew ({ t with vm := st.vm } : State) L mc ms ∧ ∀ z ∈ L, free z.base
def vx_Q (Qc : Array Value → State → Outcome → State → Prop) (XC : String → State → State → Prop) (mc ms : Nat) (free : Addr → Prop) : Array Value → State → Outcome → State → Prop := fun a st o t =>
  (Qc a st o t ∧ ∃ L, FrameEnd st o t L mc ms ∧ ∀ q ∈ L, free q.base) ∨ ∃ q, o = .threw q ∧ vx_T XC st q t mc ms free
/-- a callee that returns or throws -/
def vx_Met (l : Launch) (y : MethodName) (ws : List Cond) (rm : Room) (Pc : Array Value → State → Prop) (Qc : Array Value → State → Outcome → State → Prop) (XC : String → State → State → Prop) (mc ms : Nat) (free : Addr → Prop) : Prop :=
  MetFree l y (headSpec ws rm) Pc (fun _ _ _ _ _ => True) (vx_Q Qc XC mc ms free)
def vx_Post (XC : String → State → State → Prop) (mc ms : Nat) (free : Addr → Prop) : Pt → Array Value → Addr → Pt → Prop := fun A a q B =>
  ∃ (g : JFrame) (mk : MethodId) (t : State) (L : List Loc) (E : String) (ce : Cell), B.U.heap = t.heap ∧ B.U.vm = t.vm ∧ XC E (A.U.calling g mk a) t ∧ t.heap[q]? = some ce ∧ ce.vm = .none ∧ A.U.vm.findClass E = some ce.cls ∧ B.locs = A.locs ++ L ∧ (∀ z ∈ L, free z.base) ∧ B.cells = A.cells + mc ∧ B.slots = A.slots + ms
def vx_Back (l : Launch) (R : Room) (p : Program) (e : Env) (below : List Frame) (s : State) (sargs : Array Value) (y : MethodName) (len W9 : Nat)
    (Pre : Pt → Array Value → Prop) (Post : Pt → Array Value → Option Value → Pt → Prop) (PostX : Pt → Array Value → Addr → Pt → Prop) : Prop :=
  ∀ (m : MethodId) (meth : Method) (c : Code) (A : Pt) (g : JFrame) (ig : Instr) (mk : MethodId) (a : Array Value),
    Stand p l e R s m sargs below meth c A.U A.locs A.cells A.slots → g.method = m → g.locals.size = c.maxLocals → decode c.code g.pc = .ok (ig, len) →
    2 * g.monitorRoom + (g.stack.map fun v => v.category).sum ≤ W9 → A.U.methodNamed? y = some mk → Pre A a →
    (∃ (v : Option Value) (B : Pt), Stand p l e R s m sargs below meth c B.U B.locs B.cells B.slots ∧ Post A a v B ∧
      Steps p.tables e below (doInvoke e (A.U.setTop g) [] mk a).1 (B.U.setTop { g with pc := g.pc + len, stack := v.toList ++ g.stack })) ∨
    (∃ (q : Addr) (B : Pt), Stand p l e R s m sargs below meth c B.U B.locs B.cells B.slots ∧ PostX A a q B ∧
      Steps p.tables e below (doInvoke e (A.U.setTop g) [] mk a).1 ((B.U.setTop g).pushFrame (.throwing q)))
section Payer
variable {l : Launch} {R : Room} {p : Program} {e : Env} {below : List Frame} {s : State} {sargs : Array Value} {y : MethodName} {len W9 : Nat}
theorem vx_back {ws : List Cond} {rm : Room} {Pc : Array Value → State → Prop} {Qc : Array Value → State → Outcome → State → Prop} {XC : String → State → State → Prop} {mc ms : Nat} {free : Addr → Prop} {bytes : ByteArray} {maxL : Nat} {ret : Option FieldType}
    (hM : vx_Met l y ws rm Pc Qc XC mc ms free) (hblind : FrameBlind Pc) (hrc : rm.cells = mc) (hrs : rm.slots = ms)
    (hframes : rm.frames + 1 ≤ R.frames) (hlocals : W9 + (maxL + 11) + rm.locals ≤ R.locals)
    (hws : ∀ w ∈ ws, ∀ a' U, s.WarmedH U.vm → w.before a' U = true) (hcode : Cond.code y bytes maxL ret ∈ ws) (hinit : ∀ a' U, s.WarmedH U.vm → (Cond.initialized y.cls).before a' U = true) :
    vx_Back l R p e below s sargs y len W9 (PreOf R mc ms Pc) (PostOf Qc mc ms free) (vx_Post XC mc ms free) := by
  intro m meth c A g ig mk a X hg hsize hdg hW hn hp
  have h1 : (headSpec ws rm).pre.before a A.U = true := atoms_intro fun w hw => hws w hw _ _ X.warmed
  have h2 : (Cond.code y bytes maxL ret).before a A.U = true := hws _ hcode _ _ X.warmed
  have h3 : (Cond.initialized y.cls).before a A.U = true := hinit _ _ X.warmed
  have h4 : A.cells + (headSpec ws rm).room.cells ≤ R.cells := by rw [show (headSpec ws rm).room.cells = mc from hrc]; exact hp.1
  have h5 : A.slots + (headSpec ws rm).room.slots ≤ R.slots := by rw [show (headSpec ws rm).room.slots = ms from hrs]; exact hp.2.1
  have hPc : Pc a (A.U.calling g mk a) := hblind _ _ _ _ hp.2.2
  obtain ⟨U, Ls, c0, s0⟩ := A
  dsimp only [Pt.U, Pt.locs, Pt.cells, Pt.slots] at h1 h2 h3 h4 h5 X hn hPc ⊢
  obtain ⟨methY, cY, hmY, hcY, -, hlY, -, -, -, -⟩ := Cond.code_spec hn h2
  obtain ⟨kY, hkY, -⟩ := className_of_methodNamed hn
  have hinitY : kY.init = .initialized := Cond.initialized_spec (findClass_of_methodNamed hn) hkY h3
  have h : At U g.method c below := by rw [hg]; exact X.here
  have hlocals9 : W9 + (maxL + 11) + (headSpec ws rm).room.locals ≤ R.locals := hlocals
  have happ : (headSpec ws rm).appliesLoose y e.platform (U.calling g mk a) = true :=
    Spec.appliesLoose_calling (g := g) h hdg hn hkY hinitY
      (X.room_calling (g := g) (R' := (headSpec ws rm).room) hsize hmY hcY hframes (by rw [hlY]; omega) h4 h5) h1
  obtain ⟨mid, hmid⟩ := h.above
  have hfr : (U.setTop g).frames = (.java g :: mid) ++ below := by rw [State.frames_setTop' g h.top, hmid]; rfl
  obtain ⟨o, s₂, hsteps, -, hend, hq⟩ := Steps.callFree hM p X.admits X.cas X.clock (acts := []) hfr happ hPc trivial
  have hq' : vx_Q Qc XC mc ms free a (U.calling g mk a) o s₂ := hq
  rw [State.frames_setTop' g h.top] at hend
  obtain ⟨g₀, hg0⟩ := Option.isSome_iff_exists.mp h.top
  obtain ⟨r, hr⟩ := State.topJava?_eq_some.mp hg0
  have hr' : (({ U with heap := s₂.heap, slotsUsed := s₂.slotsUsed } : State).setVm s₂.vm).frames = .java g₀ :: r := hr
  rcases hq' with ⟨hqc, L, hfe, hL⟩ | ⟨q, rfl, E, ce, L, hx, hce, hcv, hcl, hW₂, hsm, hL⟩
  · obtain ⟨⟨v, rfl⟩, hW₂, e2, q2, q3, q4, q5, q6⟩ := id hfe
    have e3 : s₂ = ({ (U.calling g mk a).setFrames s₂.frames with heap := s₂.heap, slotsUsed := s₂.slotsUsed } : State).setVm s₂.vm := by
      have : s₂ = ({ s₂ with vm := (U.calling g mk a).vm } : State).setVm s₂.vm := rfl
      rw [e2] at this
      exact this
    obtain ⟨c₂, i₂, len₂, hc₂, hd₂, hf₂⟩ := hend
    have hW' : U.WarmedH s₂.vm := hW₂
    have hcc : c₂ = c := by
      have h1 : s₂.code? g.method = U.code? g.method := by
        rw [State.code?_eq, State.code?_eq, hW'.alike.method?]
      exact Option.some.inj (hc₂.symm.trans (h1.trans h.code))
    subst hcc
    have hlen : len₂ = len := by rw [hdg] at hd₂; cases hd₂; rfl
    subst hlen
    have hs₂ : s₂ = (({ U with heap := s₂.heap, slotsUsed := s₂.slotsUsed } : State).setVm s₂.vm).setTop { g with pc := g.pc + len₂, stack := v.toList ++ g.stack } := by
      refine e3.trans ?_
      rw [hf₂, State.calling_eq h.top, State.setFrames_setFrames, State.setTop_of_frames _ hr', hr]
      rfl
    have hsame : U.sameButNew ({ U with heap := s₂.heap, slotsUsed := s₂.slotsUsed } : State) L mc ms := by
      refine ⟨?_, q2, q3, q4, q5, q6⟩
      obtain ⟨t, ht, -⟩ := State.frames_cons hr
      show ({ U with heap := s₂.heap, slotsUsed := s₂.slotsUsed } : State) = { U.setFrames U.frames with heap := s₂.heap, slotsUsed := s₂.slotsUsed }
      rw [State.setFrames_self ht]
    subst hg
    refine Or.inl ⟨v, ⟨(({ U with heap := s₂.heap, slotsUsed := s₂.slotsUsed } : State).setVm s₂.vm), Ls ++ L, c0 + mc, s0 + ms⟩,
      ⟨X.admits, X.cas, X.clock, X.frames, X.room, X.hears, X.method, X.code, (X.here.setHeapUsed s₂.heap s₂.slotsUsed).setVm hW'.alike, X.tail, State.WarmedH.trans X.warmed hW', X.limits, X.bytes, X.same.trans (hsame.setVm s.vm)⟩,
      ⟨g, mk, s₂, L, rfl, rfl, hqc, rfl, hL, rfl, rfl⟩, ?_⟩
    show Steps p.tables e below _ ((({ U with heap := s₂.heap, slotsUsed := s₂.slotsUsed } : State).setVm s₂.vm).setTop { g with pc := g.pc + len₂, stack := v.toList ++ g.stack })
    rw [← hs₂]
    exact hsteps
  · obtain ⟨e2, q2, q3, q4, q5, q6⟩ := id hsm
    have e3 : s₂ = ({ (U.calling g mk a).setFrames s₂.frames with heap := s₂.heap, slotsUsed := s₂.slotsUsed } : State).setVm s₂.vm := by
      have : s₂ = ({ s₂ with vm := (U.calling g mk a).vm } : State).setVm s₂.vm := rfl
      rw [e2] at this
      exact this
    have hf₂ : s₂.frames = .throwing q :: .java g :: U.frames.tail := hend
    have hW' : U.WarmedH s₂.vm := hW₂
    have hs₂ : s₂ = ((({ U with heap := s₂.heap, slotsUsed := s₂.slotsUsed } : State).setVm s₂.vm).setTop g).pushFrame (.throwing q) := by
      refine e3.trans ?_
      rw [hf₂, State.calling_eq h.top, State.setFrames_setFrames, State.pushFrame, State.frames_setTop _ hr', State.setTop_of_frames _ hr', State.setFrames_setFrames, hr]
      rfl
    have hsame : U.sameButNew ({ U with heap := s₂.heap, slotsUsed := s₂.slotsUsed } : State) L mc ms := by
      refine ⟨?_, q2, q3, q4, q5, q6⟩
      obtain ⟨t, ht, -⟩ := State.frames_cons hr
      show ({ U with heap := s₂.heap, slotsUsed := s₂.slotsUsed } : State) = { U.setFrames U.frames with heap := s₂.heap, slotsUsed := s₂.slotsUsed }
      rw [State.setFrames_self ht]
    subst hg
    refine Or.inr ⟨q, ⟨(({ U with heap := s₂.heap, slotsUsed := s₂.slotsUsed } : State).setVm s₂.vm), Ls ++ L, c0 + mc, s0 + ms⟩,
      ⟨X.admits, X.cas, X.clock, X.frames, X.room, X.hears, X.method, X.code, (X.here.setHeapUsed s₂.heap s₂.slotsUsed).setVm hW'.alike, X.tail, State.WarmedH.trans X.warmed hW', X.limits, X.bytes, X.same.trans (hsame.setVm s.vm)⟩,
      ⟨g, mk, s₂, L, E, ce, rfl, rfl, hx, hce, hcv, hcl, rfl, hL, rfl, rfl⟩, ?_⟩
    show Steps p.tables e below _ (((({ U with heap := s₂.heap, slotsUsed := s₂.slotsUsed } : State).setVm s₂.vm).setTop g).pushFrame (.throwing q))
    rw [← hs₂]
    exact hsteps
end Payer
section Calls
variable {p : Program} {l : Launch} {e : Env} {R : Room} {s : State} {m : MethodId} {args : Array Value} {below : List Frame} {meth : Method} {c : Code} {T : State} {locs : List Loc} {cells slots : Nat}
theorem vx_callV (X : Stand p l e R s m args below meth c T locs cells slots) (hexec : p.tables.exec = Jvm.exec) {own C : String} {index : Nat} {y : MethodName} {bytes : ByteArray} {maxL : Nat} {ret : Option FieldType}
    (hown : s.vm.findClass own = some m.cls) (hlink : (Cond.methodLink own index y).before args s = true) (hinst : (Cond.instanceMethod y).before args s = true) (hsel : (Cond.selects C y y).before args s = true)
    (hcode : (Cond.code y bytes maxL ret).before args s = true) (hy : y.cls ≠ "java/lang/invoke/MethodHandle" ∧ y.cls ≠ "java/lang/invoke/VarHandle")
    {W9 : Nat} {Pre : Pt → Array Value → Prop} {Post : Pt → Array Value → Option Value → Pt → Prop} {PostX : Pt → Array Value → Addr → Pt → Prop} (hK : vx_Back l R p e below s args y 3 W9 Pre Post PostX)
    {b : Addr} {cellB : Cell} (hcell : T.heap[b]? = some cellB) (hobj : cellB.vm.isStatics = false) (hcls : s.vm.findClass C = some cellB.cls)
    {g : JFrame} (hg : g.method = m) (hsize : g.locals.size = c.maxLocals) {argsL rest : List Value} (hlen : ∀ sig, parseMethodDescriptor y.desc = some sig → argsL.length = sig.parameters.length)
    (hstack : g.stack = argsL.reverse ++ .ref b :: rest) (hW : 2 * g.monitorRoom + (rest.map fun v => v.category).sum ≤ W9) (hdg : decode c.code g.pc = .ok (.invokevirtual index, 3))
    (hpre : ∀ vm₁, s.WarmedH vm₁ → Pre ⟨T.setVm vm₁, locs, cells, slots⟩ (Value.ref b :: argsL).toArray) :
    (∃ (v : Option Value) (vm₁ : Vm) (B : Pt), s.WarmedH vm₁ ∧ Stand p l e R s m args below meth c B.U B.locs B.cells B.slots ∧ Post ⟨T.setVm vm₁, locs, cells, slots⟩ (Value.ref b :: argsL).toArray v B ∧
      ∀ target, Steps p.tables e below (B.U.setTop { g with pc := g.pc + 3, stack := v.toList ++ rest }) target → Steps p.tables e below (T.setTop g) target) ∨
    (∃ (q : Addr) (vm₁ : Vm) (B : Pt), s.WarmedH vm₁ ∧ Stand p l e R s m args below meth c B.U B.locs B.cells B.slots ∧ PostX ⟨T.setVm vm₁, locs, cells, slots⟩ (Value.ref b :: argsL).toArray q B ∧
      Steps p.tables e below (T.setTop g) ((B.U.setTop { g with stack := rest }).pushFrame (.throwing q))) := by
  obtain ⟨mk, methM, hnamed, hmethM, hstM, habM⟩ := Cond.instanceMethod_spec hinst
  obtain ⟨methM', cM, hmethM', -, -, -, -, -, -, hsigM⟩ := Cond.code_spec hnamed hcode
  cases hmethM.symm.trans hmethM'
  obtain ⟨c2, r2, m2, q1, q2, q3, q4, kP, hkP, hkPi⟩ := Cond.selects_spec hsel
  cases hcls.symm.trans q1
  cases (State.methodFound?_of_named hnamed hy).symm.trans q2
  cases hnamed.symm.trans q3
  have hselP : selectMethod e.platform s.vm cellB.cls mk = .method mk := by rw [Launch.admits_selectMethod X.admits]; exact q4
  obtain ⟨vm₁, X₁, hstep₁⟩ := X.invokevirtual hexec hown hlink hnamed hmethM hstM hkP hkPi hy (a := b) (cell := cellB) hcell
    (fun z h => by rw [h] at hobj; cases hobj) hselP hmethM habM hkP hkPi (g := g) hg (argsL := argsL) (rest := rest) (hlen _ hsigM) hstack hdg
  rcases hK m meth c ⟨T.setVm vm₁, locs, cells, slots⟩ { g with stack := rest } (.invokevirtual index) mk (Value.ref b :: argsL).toArray X₁ hg hsize hdg hW (X₁.named hnamed) (hpre vm₁ X₁.warmed) with ⟨v, B, X', hpost, hsteps⟩ | ⟨q, B, X', hpost, hsteps⟩
  · exact Or.inl ⟨v, vm₁, B, X₁.warmed, X', hpost, fun target h => hstep₁ _ fun acts => by rw [doInvoke_state]; exact hsteps.trans h⟩
  · exact Or.inr ⟨q, vm₁, B, X₁.warmed, X', hpost, hstep₁ _ fun acts => by rw [doInvoke_state]; exact hsteps⟩
theorem vx_callS (X : Stand p l e R s m args below meth c T locs cells slots) (hexec : p.tables.exec = Jvm.exec) {own : String} {index : Nat} {y : MethodName} {bytes : ByteArray} {maxL : Nat} {ret : Option FieldType}
    (hown : s.vm.findClass own = some m.cls) (hlink : (Cond.methodLink own index y).before args s = true) (hstat : (Cond.static y).before args s = true) (hinit : (Cond.initialized y.cls).before args s = true)
    (hcode : (Cond.code y bytes maxL ret).before args s = true) (hy : y.cls ≠ "java/lang/invoke/MethodHandle" ∧ y.cls ≠ "java/lang/invoke/VarHandle")
    {W9 : Nat} {Pre : Pt → Array Value → Prop} {Post : Pt → Array Value → Option Value → Pt → Prop} {PostX : Pt → Array Value → Addr → Pt → Prop} (hK : vx_Back l R p e below s args y 3 W9 Pre Post PostX)
    {g : JFrame} (hg : g.method = m) (hsize : g.locals.size = c.maxLocals) {argsL rest : List Value} (hlen : ∀ sig, parseMethodDescriptor y.desc = some sig → argsL.length = sig.parameters.length)
    (hstack : g.stack = argsL.reverse ++ rest) (hW : 2 * g.monitorRoom + (rest.map fun v => v.category).sum ≤ W9) (hdg : decode c.code g.pc = .ok (.invokestatic index, 3))
    (hpre : ∀ vm₁, s.WarmedH vm₁ → Pre ⟨T.setVm vm₁, locs, cells, slots⟩ argsL.toArray) :
    (∃ (v : Option Value) (vm₁ : Vm) (B : Pt), s.WarmedH vm₁ ∧ Stand p l e R s m args below meth c B.U B.locs B.cells B.slots ∧ Post ⟨T.setVm vm₁, locs, cells, slots⟩ argsL.toArray v B ∧
      ∀ target, Steps p.tables e below (B.U.setTop { g with pc := g.pc + 3, stack := v.toList ++ rest }) target → Steps p.tables e below (T.setTop g) target) ∨
    (∃ (q : Addr) (vm₁ : Vm) (B : Pt), s.WarmedH vm₁ ∧ Stand p l e R s m args below meth c B.U B.locs B.cells B.slots ∧ PostX ⟨T.setVm vm₁, locs, cells, slots⟩ argsL.toArray q B ∧
      Steps p.tables e below (T.setTop g) ((B.U.setTop { g with stack := rest }).pushFrame (.throwing q))) := by
  obtain ⟨mk, hnamed⟩ := Cond.code_named hcode
  obtain ⟨methM, cM, hmethM, -, -, -, -, -, -, hsigM⟩ := Cond.code_spec hnamed hcode
  have hstatic : methM.isStatic = true := Cond.static_spec hnamed hmethM hstat
  obtain ⟨kP, hkP, -⟩ := className_of_methodNamed hnamed
  have hinitP : kP.init = .initialized := Cond.initialized_spec (findClass_of_methodNamed hnamed) hkP hinit
  obtain ⟨vm₁, X₁, hstep₁⟩ := X.invokestatic hexec hown hlink hnamed hmethM hstatic hkP hinitP hy (g := g) hg (argsL := argsL) (rest := rest) (hlen _ hsigM) hstack hdg
  rcases hK m meth c ⟨T.setVm vm₁, locs, cells, slots⟩ { g with stack := rest } (.invokestatic index) mk argsL.toArray X₁ hg hsize hdg hW (X₁.named hnamed) (hpre vm₁ X₁.warmed) with ⟨v, B, X', hpost, hsteps⟩ | ⟨q, B, X', hpost, hsteps⟩
  · exact Or.inl ⟨v, vm₁, B, X₁.warmed, X', hpost, fun target h => hstep₁ _ fun acts => by rw [doInvoke_state]; exact hsteps.trans h⟩
  · exact Or.inr ⟨q, vm₁, B, X₁.warmed, X', hpost, hstep₁ _ fun acts => by rw [doInvoke_state]; exact hsteps⟩
end Calls
theorem vx_cls {s : State} {T : State} {vm₁ : Vm} {E : String} {k : ClassId} (hW : s.WarmedH vm₁) (h : (T.setVm vm₁).vm.findClass E = some k) : s.vm.findClass E = some k := by
  have h1 : vm₁.findClass E = some k := h
  rw [hW.alike.findClass] at h1
  exact h1
/-- the method's frame g, with q thrown over it -/
def vx_W (p : Program) (l : Launch) (e : Env) (R : Room) (s : State) (m : MethodId) (args : Array Value) (below : List Frame) (meth : Method) (c : Code) (H : Heap) (locs : List Loc) (cells slots : Nat) (Q : State → Prop) (g : JFrame) (q : Addr) : Prop :=
  ∀ T : State, T.heap = H → Stand p l e R s m args below meth c T locs cells slots → ∃ t, Steps p.tables e below ((T.setTop g).pushFrame (.throwing q)) t ∧ Q t
def vx_Run (p : Program) (l : Launch) (e : Env) (R : Room) (s : State) (m : MethodId) (args : Array Value) (below : List Frame) (meth : Method) (c : Code) (H : Heap) (locs : List Loc) (cells slots mc ms : Nat) (g : JFrame) (rest : List Value) (Qa : State → Outcome → State → Prop) (XC : String → State → State → Prop) (free : Addr → Prop) : Prop :=
  ∀ T : State, T.heap = H → Stand p l e R s m args below meth c T locs cells slots →
    (∃ (v : Option Value) (st₀ t T' : State) (L : List Loc), st₀.heap = H ∧ Stand p l e R s m args below meth c T' (locs ++ L) (cells + mc) (slots + ms) ∧ (∀ q ∈ L, free q.base) ∧ T'.heap = t.heap ∧ T'.vm = t.vm ∧ Qa st₀ (.returned v) t ∧
      Goes p e below T g T' { g with pc := g.pc + 3, stack := v.toList ++ rest }) ∨
    (∃ (q : Addr) (st₀ t T' : State) (L : List Loc) (E : String) (ce : Cell), st₀.heap = H ∧ Stand p l e R s m args below meth c T' (locs ++ L) (cells + mc) (slots + ms) ∧ (∀ z ∈ L, free z.base) ∧ T'.heap = t.heap ∧ T'.vm = t.vm ∧ XC E st₀ t ∧ t.heap[q]? = some ce ∧ ce.vm = .none ∧ s.vm.findClass E = some ce.cls ∧
      Steps p.tables e below (T.setTop g) ((T'.setTop { g with stack := rest }).pushFrame (.throwing q)))
def vx_X {S : Type} (px : S → Prop) (B : String → S → State → Prop) (A : Nat → Prop) : String → State → State → Prop := fun E st t => ∃ u : S, px u ∧ B E u t ∧ va_F A st t
section Runs
variable {p : Program} {l : Launch} {e : Env} {R : Room} {s : State} {m : MethodId} {args : Array Value} {below : List Frame} {meth : Method} {c : Code} {H : Heap} {locs : List Loc} {cells slots : Nat}
variable {y : MethodName} {bytes cc : ByteArray} {maxL nL mc ms n index : Nat} {ret : Option FieldType} {ws : List Cond} {rm : Room} {Pc : Array Value → State → Prop} {Qc : Array Value → State → Outcome → State → Prop} {XC : String → State → State → Prop} {free : Addr → Prop} {Ts : List Cond} {own C : String} {b : Addr} {As rest : List Value} {g : JFrame}
theorem vx_callBack (cb : CallB R s args own index y bytes maxL ret ws rm mc ms n) (hM : vx_Met l y ws rm Pc Qc XC mc ms free) (hbl : FrameBlind Pc) : vx_Back l R p e below s args y 3 8 (PreOf R mc ms Pc) (PostOf Qc mc ms free) (vx_Post XC mc ms free) := by
  obtain ⟨hrc, hrs, hfr, hlo, hws, hcw, -, hini, -⟩ := cb
  exact vx_back (bytes := bytes) (maxL := maxL) (ret := ret) hM hbl hrc hrs hfr hlo hws hcw (fun a' U hW => word_at hW (Or.inl (by first | rfl | simp [Cond.onTables, Cond.keeps, Cond.steady])) hini)
theorem vx_runV (S : CallFix p m c cc nL s args Ts own) (hM : vx_Met l y ws rm Pc Qc XC mc ms free) (cw : CallW R s args own C index y bytes maxL ret ws rm mc ms n) (hp : PreV s H C b Pc As)
    (hg : g.method = m) (hn : As.length = n) (hsize : g.locals.size = nL) (hstack : g.stack = As.reverse ++ .ref b :: rest) (hW : 2 * g.monitorRoom + (rest.map fun v => v.category).sum ≤ 8) (hdg : decode cc g.pc = .ok (.invokevirtual index, 3)) (hf : cells + mc ≤ R.cells ∧ slots + ms ≤ R.slots) :
    vx_Run p l e R s m args below meth c H locs cells slots mc ms g rest (Qc (Value.ref b :: As).toArray) XC free := by
  have hK : vx_Back l R p e below s args y 3 8 (PreOf R mc ms Pc) (PostOf Qc mc ms free) (vx_Post XC mc ms free) := vx_callBack cw.1 hM hp.1
  obtain ⟨⟨-, -, -, -, -, -, hcode, -, hy, hlen, hl⟩, hin, hse⟩ := cw
  obtain ⟨hx, hb, hml, ho, -⟩ := S
  obtain ⟨-, ⟨cellB, hcB, hoB, hclB⟩, hPc⟩ := hp
  intro T hT X
  rcases vx_callV X hx (C := C) (bytes := bytes) (maxL := maxL) (ret := ret) ho hl hin hse hcode hy hK (by rw [hT]; exact hcB) hoB hclB hg (hsize.trans hml.symm) (argsL := As) (rest := rest) (fun sig h => hn.trans (hlen sig h)) hstack hW (by rw [hb]; exact hdg)
    (fun vm₁ hW₁ => ⟨hf.1, hf.2, hPc (T.setVm vm₁) hT hW₁⟩) with ⟨v, vm₁, ⟨U', l2, c2, s2⟩, hW₁, X', ⟨g', mk, t, L, e1, e2, hq, h1, hL, h2, h3⟩, st⟩ | ⟨q, vm₁, ⟨U', l2, c2, s2⟩, hW₁, X', ⟨g', mk, t, L, E, ce, e1, e2, hq, hce, hcv, hcl, h1, hL, h2, h3⟩, st⟩
  · dsimp only [Pt.U, Pt.locs, Pt.cells, Pt.slots] at X' e1 e2 h1 h2 h3 st
    subst h1; subst h2; subst h3
    exact Or.inl ⟨v, (T.setVm vm₁).calling g' mk (Value.ref b :: As).toArray, t, U', L, hT, X', hL, e1, e2, hq, st⟩
  · dsimp only [Pt.U, Pt.locs, Pt.cells, Pt.slots] at X' e1 e2 h1 h2 h3 st hcl
    subst h1; subst h2; subst h3
    exact Or.inr ⟨q, (T.setVm vm₁).calling g' mk (Value.ref b :: As).toArray, t, U', L, E, ce, hT, X', hL, e1, e2, hq, hce, hcv, vx_cls hW₁ hcl, st⟩
theorem vx_runS (S : CallFix p m c cc nL s args Ts own) (hM : vx_Met l y ws rm Pc Qc XC mc ms free) (cw : CallB R s args own index y bytes maxL ret ws rm mc ms n ∧ (Cond.static y).before args s = true) (hp : PreS s H Pc As)
    (hg : g.method = m) (hn : As.length = n) (hsize : g.locals.size = nL) (hstack : g.stack = As.reverse ++ rest) (hW : 2 * g.monitorRoom + (rest.map fun v => v.category).sum ≤ 8) (hdg : decode cc g.pc = .ok (.invokestatic index, 3)) (hf : cells + mc ≤ R.cells ∧ slots + ms ≤ R.slots) :
    vx_Run p l e R s m args below meth c H locs cells slots mc ms g rest (Qc As.toArray) XC free := by
  have hK : vx_Back l R p e below s args y 3 8 (PreOf R mc ms Pc) (PostOf Qc mc ms free) (vx_Post XC mc ms free) := vx_callBack cw.1 hM hp.1
  obtain ⟨⟨-, -, -, -, -, -, hcode, hini, hy, hlen, hl⟩, hstt⟩ := cw
  obtain ⟨hx, hb, hml, ho, -⟩ := S
  intro T hT X
  rcases vx_callS X hx (bytes := bytes) (maxL := maxL) (ret := ret) ho hl hstt hini hcode hy hK hg (hsize.trans hml.symm) (argsL := As) (rest := rest) (fun sig h => hn.trans (hlen sig h)) hstack hW (by rw [hb]; exact hdg)
    (fun vm₁ hW₁ => ⟨hf.1, hf.2, hp.2 (T.setVm vm₁) hT hW₁⟩) with ⟨v, vm₁, ⟨U', l2, c2, s2⟩, hW₁, X', ⟨g', mk, t, L, e1, e2, hq, h1, hL, h2, h3⟩, st⟩ | ⟨q, vm₁, ⟨U', l2, c2, s2⟩, hW₁, X', ⟨g', mk, t, L, E, ce, e1, e2, hq, hce, hcv, hcl, h1, hL, h2, h3⟩, st⟩
  · dsimp only [Pt.U, Pt.locs, Pt.cells, Pt.slots] at X' e1 e2 h1 h2 h3 st
    subst h1; subst h2; subst h3
    exact Or.inl ⟨v, (T.setVm vm₁).calling g' mk As.toArray, t, U', L, hT, X', hL, e1, e2, hq, st⟩
  · dsimp only [Pt.U, Pt.locs, Pt.cells, Pt.slots] at X' e1 e2 h1 h2 h3 st hcl
    subst h1; subst h2; subst h3
    exact Or.inr ⟨q, (T.setVm vm₁).calling g' mk As.toArray, t, U', L, E, ce, hT, X', hL, e1, e2, hq, hce, hcv, vx_cls hW₁ hcl, st⟩
end Runs
section Rows
variable {p : Program} {l : Launch} {e : Env} {R : Room} {s : State} {m : MethodId} {args : Array Value} {below : List Frame} {meth : Method} {c : Code} {H : Heap} {locs : List Loc} {cells slots : Nat} {Q : State → Prop}
variable {mc ms : Nat} {free : Addr → Prop} {A0 A1 : Nat → Prop} {H0 : Heap} {a : Array Value} {pc : Nat} {ls : Array Slot} {st0 rest : List Value}
theorem vx_keep {st₀ t T' : State} {L : List Loc} (h0 : st₀.heap = H) (e1 : T'.heap = t.heap) (hS : va_S A0 H0 H locs) (hA : ∀ q, q < H.size → A1 q → A0 q) (hf : ∀ q, free q → A0 q) (hL : ∀ q ∈ L, free q.base) (hF : va_F A1 st₀ t) :
    H.size ≤ T'.heap.size ∧ (∀ q : Nat, q < H.size → ¬ A1 q → T'.heap[q]? = H[q]?) ∧ va_S A0 H0 T'.heap (locs ++ L) := by
  obtain ⟨hz, hk⟩ := hF
  rw [h0] at hz hk
  exact ⟨by rw [e1]; exact hz, fun q h1 h2 => by rw [e1]; exact hk q h1 h2,
    ⟨Nat.le_trans hS.1 (by rw [e1]; exact hz), fun q h1 h2 => by rw [e1, hk q (Nat.lt_of_lt_of_le h1 hS.1) (fun z => h2 (hA q (Nat.lt_of_lt_of_le h1 hS.1) z))]; exact hS.2.1 q h1 h2, fun q hq => by
      rcases List.mem_append.mp hq with h | h
      · exact hS.2.2 q h
      · exact hf _ (hL q h)⟩⟩
theorem vx_calli {S SX : Type} {post : Int32 → S → Prop} {px : SX → Prop} {B : S → State → Prop} {BX : String → SX → State → Prop} {AX : Nat → Prop} (hr : vx_Run p l e R s m args below meth c H locs cells slots mc ms (F0 m pc ls st0) rest (va_Qi post B A1 a) (vx_X px BX AX) free) (hS : va_S A0 H0 H locs) (hA : ∀ q, q < H.size → A1 q → A0 q) (hf : ∀ q, free q → A0 q) (hAX : ∀ q, q < H.size → AX q → A0 q)
    (kx : ∀ (E : String) (ce : Cell) (q9 : Addr) (u : SX) (t : State) (H1 : Heap) (locs1 : List Loc), t.heap = H1 → s.vm.Alike t.vm → px u → BX E u t → H.size ≤ H1.size → (∀ q : Nat, q < H.size → ¬ AX q → H1[q]? = H[q]?) → va_S A0 H0 H1 locs1 → H1[q9]? = some ce → ce.vm = .none → s.vm.findClass E = some ce.cls → vx_W p l e R s m args below meth c H1 locs1 (cells + mc) (slots + ms) Q (F0 m pc ls rest) q9)
    (kk : ∀ (r : Int32) (u : S) (t : State) (H1 : Heap) (locs1 : List Loc), t.heap = H1 → s.vm.Alike t.vm → post r u → B u t → H.size ≤ H1.size → (∀ q : Nat, q < H.size → ¬ A1 q → H1[q]? = H[q]?) → va_S A0 H0 H1 locs1 → W p l e R s m args below meth c H1 locs1 (cells + mc) (slots + ms) Q (F0 m (pc + 3) ls (.int r :: rest))) : W p l e R s m args below meth c H locs cells slots Q (F0 m pc ls st0) := by
  intro T hT X
  rcases hr T hT X with ⟨v, st₀, t, T', L, h0, X', hL, e1, e2, ⟨⟨r, u, hv, hp, hb⟩, hF⟩, st⟩ | ⟨q, st₀, t, T', L, E, ce, h0, X', hL, e1, e2, ⟨u, hp, hb, hF⟩, hce, hcv, hcl, st⟩
  · cases hv
    obtain ⟨k1, k2, k3⟩ := vx_keep h0 e1 hS hA hf hL hF
    obtain ⟨t2, a1, b1⟩ := kk r u t T'.heap (locs ++ L) e1.symm (by rw [← e2]; exact X'.warmed.alike) hp hb k1 k2 k3 T' rfl X'
    exact ⟨t2, st t2 a1, b1⟩
  · obtain ⟨k1, k2, k3⟩ := vx_keep h0 e1 hS hAX hf hL hF
    obtain ⟨t2, a1, b1⟩ := kx E ce q u t T'.heap (locs ++ L) e1.symm (by rw [← e2]; exact X'.warmed.alike) hp hb k1 k2 k3 (by rw [e1]; exact hce) hcv hcl T' rfl X'
    exact ⟨t2, st.trans a1, b1⟩
theorem vx_calll {S SX : Type} {post : Int64 → S → Prop} {px : SX → Prop} {B : S → State → Prop} {BX : String → SX → State → Prop} {AX : Nat → Prop} (hr : vx_Run p l e R s m args below meth c H locs cells slots mc ms (F0 m pc ls st0) rest (va_Ql post B A1 a) (vx_X px BX AX) free) (hS : va_S A0 H0 H locs) (hA : ∀ q, q < H.size → A1 q → A0 q) (hf : ∀ q, free q → A0 q) (hAX : ∀ q, q < H.size → AX q → A0 q)
    (kx : ∀ (E : String) (ce : Cell) (q9 : Addr) (u : SX) (t : State) (H1 : Heap) (locs1 : List Loc), t.heap = H1 → s.vm.Alike t.vm → px u → BX E u t → H.size ≤ H1.size → (∀ q : Nat, q < H.size → ¬ AX q → H1[q]? = H[q]?) → va_S A0 H0 H1 locs1 → H1[q9]? = some ce → ce.vm = .none → s.vm.findClass E = some ce.cls → vx_W p l e R s m args below meth c H1 locs1 (cells + mc) (slots + ms) Q (F0 m pc ls rest) q9)
    (kk : ∀ (r : Int64) (u : S) (t : State) (H1 : Heap) (locs1 : List Loc), t.heap = H1 → s.vm.Alike t.vm → post r u → B u t → H.size ≤ H1.size → (∀ q : Nat, q < H.size → ¬ A1 q → H1[q]? = H[q]?) → va_S A0 H0 H1 locs1 → W p l e R s m args below meth c H1 locs1 (cells + mc) (slots + ms) Q (F0 m (pc + 3) ls (.long r :: rest))) : W p l e R s m args below meth c H locs cells slots Q (F0 m pc ls st0) := by
  intro T hT X
  rcases hr T hT X with ⟨v, st₀, t, T', L, h0, X', hL, e1, e2, ⟨⟨r, u, hv, hp, hb⟩, hF⟩, st⟩ | ⟨q, st₀, t, T', L, E, ce, h0, X', hL, e1, e2, ⟨u, hp, hb, hF⟩, hce, hcv, hcl, st⟩
  · cases hv
    obtain ⟨k1, k2, k3⟩ := vx_keep h0 e1 hS hA hf hL hF
    obtain ⟨t2, a1, b1⟩ := kk r u t T'.heap (locs ++ L) e1.symm (by rw [← e2]; exact X'.warmed.alike) hp hb k1 k2 k3 T' rfl X'
    exact ⟨t2, st t2 a1, b1⟩
  · obtain ⟨k1, k2, k3⟩ := vx_keep h0 e1 hS hAX hf hL hF
    obtain ⟨t2, a1, b1⟩ := kx E ce q u t T'.heap (locs ++ L) e1.symm (by rw [← e2]; exact X'.warmed.alike) hp hb k1 k2 k3 (by rw [e1]; exact hce) hcv hcl T' rfl X'
    exact ⟨t2, st.trans a1, b1⟩
theorem vx_callf {S SX : Type} {post : UInt32 → S → Prop} {px : SX → Prop} {B : S → State → Prop} {BX : String → SX → State → Prop} {AX : Nat → Prop} (hr : vx_Run p l e R s m args below meth c H locs cells slots mc ms (F0 m pc ls st0) rest (va_Qf post B A1 a) (vx_X px BX AX) free) (hS : va_S A0 H0 H locs) (hA : ∀ q, q < H.size → A1 q → A0 q) (hf : ∀ q, free q → A0 q) (hAX : ∀ q, q < H.size → AX q → A0 q)
    (kx : ∀ (E : String) (ce : Cell) (q9 : Addr) (u : SX) (t : State) (H1 : Heap) (locs1 : List Loc), t.heap = H1 → s.vm.Alike t.vm → px u → BX E u t → H.size ≤ H1.size → (∀ q : Nat, q < H.size → ¬ AX q → H1[q]? = H[q]?) → va_S A0 H0 H1 locs1 → H1[q9]? = some ce → ce.vm = .none → s.vm.findClass E = some ce.cls → vx_W p l e R s m args below meth c H1 locs1 (cells + mc) (slots + ms) Q (F0 m pc ls rest) q9)
    (kk : ∀ (r : UInt32) (u : S) (t : State) (H1 : Heap) (locs1 : List Loc), t.heap = H1 → s.vm.Alike t.vm → post r u → B u t → H.size ≤ H1.size → (∀ q : Nat, q < H.size → ¬ A1 q → H1[q]? = H[q]?) → va_S A0 H0 H1 locs1 → W p l e R s m args below meth c H1 locs1 (cells + mc) (slots + ms) Q (F0 m (pc + 3) ls (.float r :: rest))) : W p l e R s m args below meth c H locs cells slots Q (F0 m pc ls st0) := by
  intro T hT X
  rcases hr T hT X with ⟨v, st₀, t, T', L, h0, X', hL, e1, e2, ⟨⟨r, u, hv, hp, hb⟩, hF⟩, st⟩ | ⟨q, st₀, t, T', L, E, ce, h0, X', hL, e1, e2, ⟨u, hp, hb, hF⟩, hce, hcv, hcl, st⟩
  · cases hv
    obtain ⟨k1, k2, k3⟩ := vx_keep h0 e1 hS hA hf hL hF
    obtain ⟨t2, a1, b1⟩ := kk r u t T'.heap (locs ++ L) e1.symm (by rw [← e2]; exact X'.warmed.alike) hp hb k1 k2 k3 T' rfl X'
    exact ⟨t2, st t2 a1, b1⟩
  · obtain ⟨k1, k2, k3⟩ := vx_keep h0 e1 hS hAX hf hL hF
    obtain ⟨t2, a1, b1⟩ := kx E ce q u t T'.heap (locs ++ L) e1.symm (by rw [← e2]; exact X'.warmed.alike) hp hb k1 k2 k3 (by rw [e1]; exact hce) hcv hcl T' rfl X'
    exact ⟨t2, st.trans a1, b1⟩
theorem vx_calld {S SX : Type} {post : UInt64 → S → Prop} {px : SX → Prop} {B : S → State → Prop} {BX : String → SX → State → Prop} {AX : Nat → Prop} (hr : vx_Run p l e R s m args below meth c H locs cells slots mc ms (F0 m pc ls st0) rest (va_Qd post B A1 a) (vx_X px BX AX) free) (hS : va_S A0 H0 H locs) (hA : ∀ q, q < H.size → A1 q → A0 q) (hf : ∀ q, free q → A0 q) (hAX : ∀ q, q < H.size → AX q → A0 q)
    (kx : ∀ (E : String) (ce : Cell) (q9 : Addr) (u : SX) (t : State) (H1 : Heap) (locs1 : List Loc), t.heap = H1 → s.vm.Alike t.vm → px u → BX E u t → H.size ≤ H1.size → (∀ q : Nat, q < H.size → ¬ AX q → H1[q]? = H[q]?) → va_S A0 H0 H1 locs1 → H1[q9]? = some ce → ce.vm = .none → s.vm.findClass E = some ce.cls → vx_W p l e R s m args below meth c H1 locs1 (cells + mc) (slots + ms) Q (F0 m pc ls rest) q9)
    (kk : ∀ (r : UInt64) (u : S) (t : State) (H1 : Heap) (locs1 : List Loc), t.heap = H1 → s.vm.Alike t.vm → post r u → B u t → H.size ≤ H1.size → (∀ q : Nat, q < H.size → ¬ A1 q → H1[q]? = H[q]?) → va_S A0 H0 H1 locs1 → W p l e R s m args below meth c H1 locs1 (cells + mc) (slots + ms) Q (F0 m (pc + 3) ls (.double r :: rest))) : W p l e R s m args below meth c H locs cells slots Q (F0 m pc ls st0) := by
  intro T hT X
  rcases hr T hT X with ⟨v, st₀, t, T', L, h0, X', hL, e1, e2, ⟨⟨r, u, hv, hp, hb⟩, hF⟩, st⟩ | ⟨q, st₀, t, T', L, E, ce, h0, X', hL, e1, e2, ⟨u, hp, hb, hF⟩, hce, hcv, hcl, st⟩
  · cases hv
    obtain ⟨k1, k2, k3⟩ := vx_keep h0 e1 hS hA hf hL hF
    obtain ⟨t2, a1, b1⟩ := kk r u t T'.heap (locs ++ L) e1.symm (by rw [← e2]; exact X'.warmed.alike) hp hb k1 k2 k3 T' rfl X'
    exact ⟨t2, st t2 a1, b1⟩
  · obtain ⟨k1, k2, k3⟩ := vx_keep h0 e1 hS hAX hf hL hF
    obtain ⟨t2, a1, b1⟩ := kx E ce q u t T'.heap (locs ++ L) e1.symm (by rw [← e2]; exact X'.warmed.alike) hp hb k1 k2 k3 (by rw [e1]; exact hce) hcv hcl T' rfl X'
    exact ⟨t2, st.trans a1, b1⟩
theorem vx_callv {S SX : Type} {post : S → Prop} {px : SX → Prop} {B : S → State → Prop} {BX : String → SX → State → Prop} {AX : Nat → Prop} (hr : vx_Run p l e R s m args below meth c H locs cells slots mc ms (F0 m pc ls st0) rest (va_Qv post B A1 a) (vx_X px BX AX) free) (hS : va_S A0 H0 H locs) (hA : ∀ q, q < H.size → A1 q → A0 q) (hf : ∀ q, free q → A0 q) (hAX : ∀ q, q < H.size → AX q → A0 q)
    (kx : ∀ (E : String) (ce : Cell) (q9 : Addr) (u : SX) (t : State) (H1 : Heap) (locs1 : List Loc), t.heap = H1 → s.vm.Alike t.vm → px u → BX E u t → H.size ≤ H1.size → (∀ q : Nat, q < H.size → ¬ AX q → H1[q]? = H[q]?) → va_S A0 H0 H1 locs1 → H1[q9]? = some ce → ce.vm = .none → s.vm.findClass E = some ce.cls → vx_W p l e R s m args below meth c H1 locs1 (cells + mc) (slots + ms) Q (F0 m pc ls rest) q9)
    (kk : ∀ (u : S) (t : State) (H1 : Heap) (locs1 : List Loc), t.heap = H1 → s.vm.Alike t.vm → post u → B u t → H.size ≤ H1.size → (∀ q : Nat, q < H.size → ¬ A1 q → H1[q]? = H[q]?) → va_S A0 H0 H1 locs1 → W p l e R s m args below meth c H1 locs1 (cells + mc) (slots + ms) Q (F0 m (pc + 3) ls (rest))) : W p l e R s m args below meth c H locs cells slots Q (F0 m pc ls st0) := by
  intro T hT X
  rcases hr T hT X with ⟨v, st₀, t, T', L, h0, X', hL, e1, e2, ⟨⟨u, hv, hp, hb⟩, hF⟩, st⟩ | ⟨q, st₀, t, T', L, E, ce, h0, X', hL, e1, e2, ⟨u, hp, hb, hF⟩, hce, hcv, hcl, st⟩
  · cases hv
    obtain ⟨k1, k2, k3⟩ := vx_keep h0 e1 hS hA hf hL hF
    obtain ⟨t2, a1, b1⟩ := kk u t T'.heap (locs ++ L) e1.symm (by rw [← e2]; exact X'.warmed.alike) hp hb k1 k2 k3 T' rfl X'
    exact ⟨t2, st t2 a1, b1⟩
  · obtain ⟨k1, k2, k3⟩ := vx_keep h0 e1 hS hAX hf hL hF
    obtain ⟨t2, a1, b1⟩ := kx E ce q u t T'.heap (locs ++ L) e1.symm (by rw [← e2]; exact X'.warmed.alike) hp hb k1 k2 k3 (by rw [e1]; exact hce) hcv hcl T' rfl X'
    exact ⟨t2, st.trans a1, b1⟩
/-- caught by the row x of this method's table; the rows ahead don't take it -/
theorem vx_catch {own name : String} {E : String} {ce : Cell} {q : Addr} (hown : s.vm.findClass own = some m.cls) (pre : List ExceptionTableEntry) (x : ExceptionTableEntry) (suf : List ExceptionTableEntry) (hsplit : c.exceptionTable.toList = pre ++ x :: suf)
    (hpass : ∀ z ∈ pre, covers z pc = false ∨ (z.catchType ≠ 0 ∧ ∃ nm : String, (Cond.classLink own z.catchType nm).before args s = true ∧ va_Nc E nm s)) (hx : covers x pc = true) (h0 : x.catchType ≠ 0)
    (hlink : (Cond.classLink own x.catchType name).before args s = true) (hcast : (Cond.castable E name).before args s = true) (hcell : H[q]? = some ce) (hv : ce.vm = .none) (hcl : s.vm.findClass E = some ce.cls)
    (kk : W p l e R s m args below meth c H locs cells slots Q (F0 m x.handlerPc ls [.ref q])) : vx_W p l e R s m args below meth c H locs cells slots Q (F0 m pc ls rest) q := by
  intro T hT X
  have hpl : e.platform.magicAccessors = ({} : Platform).magicAccessors := by rw [X.admits.platform]
  obtain ⟨c3, c4, hc3, hc4, hasg⟩ := Cond.castable_spec hcast
  cases Option.some.inj (hc3.symm.trans hcl)
  obtain ⟨c5, hc5, hcl5⟩ := Cond.classLink_spec hown hlink e.platform hpl
  cases Option.some.inj (hc4.symm.trans hc5)
  obtain ⟨vm', X', st⟩ := X.thenCaughtThrough q (g := F0 m pc ls rest) rfl (Steps.refl _) (by rw [hT]; exact hcell) (by rw [hv]; rfl) (by obtain ⟨k9, h9, -⟩ := Vm.findClass_spec hcl; exact ⟨k9, h9⟩) pre x suf hsplit
    (fun z hz => by
      rcases hpass z hz with h | ⟨hz0, nm, hl1, hn1⟩
      · exact Or.inl h
      · obtain ⟨c6, hc6, hcl6⟩ := Cond.classLink_spec hown hl1 e.platform hpl
        obtain ⟨a8, b8, h1, h2, h3⟩ := hn1
        cases Option.some.inj (h1.symm.trans hcl)
        cases Option.some.inj (h2.symm.trans hc6)
        exact Or.inr ⟨hz0, _, hcl6, h3⟩) hx (Or.inr ⟨h0, c4, hcl5, hasg⟩)
  obtain ⟨t, a1, b1⟩ := kk (T.setVm vm') hT X'
  exact ⟨t, st.trans a1, b1⟩
end Rows
section Ends
variable {p : Program} {l : Launch} {e : Env} {R : Room} {s : State} {m : MethodId} {args : Array Value} {below : List Frame} {meth : Method} {c : Code} {H : Heap} {locs : List Loc} {cells slots : Nat} {Q : State → Prop}
variable {mc ms : Nat} {free : Addr → Prop} {A0 A1 : Nat → Prop} {H0 : Heap} {a : Array Value} {ls : Array Slot} {st0 rest : List Value}
variable {Qc : Array Value → State → Outcome → State → Prop} {XC : String → State → State → Prop}
/-- what a body that may throw owes at its end -/
def vx_MQ (below : List Frame) (Qc : Array Value → State → Outcome → State → Prop) (XC : String → State → State → Prop) (a : Array Value) (s : State) (mc ms : Nat) (free : Addr → Prop) : State → Prop := fun t =>
  ∃ o, t.status = .running ∧ Ended t below o ∧ vx_Q Qc XC mc ms free a s o t
theorem vx_ret {g : JFrame} {mc ms : Nat} (k : W p l e R s m args below meth c H locs cells slots (MQ below Qc args s mc ms free) g) : W p l e R s m args below meth c H locs cells slots (vx_MQ below Qc XC args s mc ms free) g := by
  intro T hT X
  obtain ⟨t, a1, o, b1, b2, b3, b4⟩ := k T hT X
  exact ⟨t, a1, o, b1, b2, Or.inl ⟨b3, b4⟩⟩
/-- not caught here: it goes on to the caller -/
theorem vx_widen {g : JFrame} {q : Addr} {k n : Nat} (h1 : cells ≤ k) (h2 : slots ≤ n) (kk : vx_W p l e R s m args below meth c H locs k n Q g q) : vx_W p l e R s m args below meth c H locs cells slots Q g q := fun T hT X => kk T hT (stand_widen X h1 h2)
theorem vx_out {pc : Nat} {E : String} {ce : Cell} {q : Addr} {mc ms : Nat} (hout : ∀ x ∈ c.exceptionTable.toList, covers x pc = false) (hlocks : meth.locks = false) (hcell : H[q]? = some ce) (hv : ce.vm = .none) (hcl : s.vm.findClass E = some ce.cls)
    (hx : ∀ t : State, t.heap = H → s.vm.Alike t.vm → XC E s t) (hf : ∀ z ∈ locs, free z.base) (hc : cells ≤ mc) (hs : slots ≤ ms) :
    vx_W p l e R s m args below meth c H locs cells slots (vx_MQ below Qc XC args s mc ms free) (F0 m pc ls rest) q := by
  intro T hT X
  obtain ⟨st1, hrun, hend, hW, hsm⟩ := X.leaveThrown q (g := F0 m pc ls rest) rfl rfl rfl hout hlocks
  have hcell9 : (T.setFrames (.throwing q :: below)).heap[q]? = some ce := by
    show T.heap[q]? = some ce
    rw [hT]; exact hcell
  exact ⟨_, st1, .threw q, hrun, hend, Or.inr ⟨q, rfl, E, ce, locs, hx _ hT hW.alike, hcell9, hv, hcl, hW, hsm.mono hc hs, hf⟩⟩
theorem vx_frame {U : State} {k n : Nat} (h : s.sameButNew ({ U with vm := s.vm } : State) locs k n) : s.heap.size ≤ U.heap.size ∧ ∀ q : Nat, q < s.heap.size → (∀ z ∈ locs, z.base ≠ q) → U.heap[q]? = s.heap[q]? := by
  obtain ⟨-, h2, -, -, -, h6⟩ := h
  refine ⟨h2, fun q hq hz => ?_⟩
  obtain ⟨c9, e1, e2, e3, e4⟩ := h6 q _ (Array.getElem?_eq_getElem hq)
  have hs : c9.slots = (s.heap[q]).slots := Array.ext_getElem? fun i => e4 i fun hm => hz _ hm rfl
  have h9 : c9 = s.heap[q] := by
    rw [hs] at e2
    exact e2
  have e5 : U.heap[q]? = some c9 := e1
  rw [e5, h9, Array.getElem?_eq_getElem hq]
/-- the words of a throw but the four that speak of the heap -/
def vx_no (w : Cond) : Bool := decide (w ≠ .isRef (.static Bundle.tN "UNASSIGNED_STACK" Bundle.steD)) && decide (w ≠ .isRef (.static Bundle.tN "SUPPRESSED_SENTINEL" Bundle.listD)) && decide (w ≠ .laysStatic Bundle.tN "UNASSIGNED_STACK" Bundle.steD) && decide (w ≠ .laysStatic Bundle.tN "SUPPRESSED_SENTINEL" Bundle.listD)
def vx_at0 (own : String) (ic : Nat) (X : String) (names : List String) : List Cond := (Bundle.ownAtoms0 own ic X names).filter vx_no
def vx_atS (own : String) (ic : Nat) (X : String) (names : List String) : List Cond := (Bundle.ownAtoms own ic X names).filter vx_no
/-- a word that the tables alone decide, or a good one -/
def vx_ot (w : Cond) : Bool := w.onTables || goodWord w
theorem vx_ot_at {args a' : Array Value} {s U : State} {w : Cond} (hW : s.WarmedH U.vm) (hvm : s.vm = U.vm) (hg : vx_ot w = true) (h : w.before args s = true) : w.before a' U = true := by
  simp only [vx_ot, Bool.or_eq_true] at hg
  rcases hg with hg | hg
  · exact va_tabs hg hvm h
  · exact word_at hW (good_of_word hg) h
/-- a list's words: the good ones out of the method's own list, the others by premises of their own -/
theorem vx_hat {args : Array Value} {s : State} {L B : List Cond} (h1 : ∀ w ∈ L.filter goodWord, w.before args s = true) (h2 : ∀ w ∈ L.filter (fun w => !goodWord w), w ∈ B) (h3 : ∀ w ∈ B, w.before args s = true) : ∀ w ∈ L, w.before args s = true := by
  intro w hw
  by_cases g : goodWord w = true
  · exact h1 w (List.mem_filter.mpr ⟨hw, g⟩)
  · refine h3 w (h2 w (List.mem_filter.mpr ⟨hw, ?_⟩))
    show (!goodWord w) = true
    cases hgw : goodWord w
    · rfl
    · exact absurd hgw g
theorem vx_c {args : Array Value} {s : State} {w : Cond} {B : List Cond} (h : w.before args s = true) (t : ∀ w ∈ B, w.before args s = true) : ∀ w' ∈ w :: B, w'.before args s = true := fun w' h' => (List.mem_cons.mp h').elim (fun e => by rw [e]; exact h) (t w')
theorem vx_n {args : Array Value} {s : State} : ∀ w ∈ ([] : List Cond), w.before args s = true := fun _ h => nomatch h
theorem vx_own {args : Array Value} {s : State} {L : List Cond} (h1 : ∀ w ∈ L.filter vx_no, w.before args s = true)
    (hU : (Cond.isRef (.static Bundle.tN "UNASSIGNED_STACK" Bundle.steD)).before args s = true) (hN : (Cond.isRef (.static Bundle.tN "SUPPRESSED_SENTINEL" Bundle.listD)).before args s = true)
    (lU : (Cond.laysStatic Bundle.tN "UNASSIGNED_STACK" Bundle.steD).before args s = true) (lN : (Cond.laysStatic Bundle.tN "SUPPRESSED_SENTINEL" Bundle.listD).before args s = true) : ∀ w ∈ L, w.before args s = true := by
  intro w hw
  by_cases e1 : w = .isRef (.static Bundle.tN "UNASSIGNED_STACK" Bundle.steD)
  · rw [e1]; exact hU
  · by_cases e2 : w = .isRef (.static Bundle.tN "SUPPRESSED_SENTINEL" Bundle.listD)
    · rw [e2]; exact hN
    · by_cases e3 : w = .laysStatic Bundle.tN "UNASSIGNED_STACK" Bundle.steD
      · rw [e3]; exact lU
      · by_cases e4 : w = .laysStatic Bundle.tN "SUPPRESSED_SENTINEL" Bundle.listD
        · rw [e4]; exact lN
        · exact h1 w (List.mem_filter.mpr ⟨hw, by unfold vx_no; rw [decide_eq_true e1, decide_eq_true e2, decide_eq_true e3, decide_eq_true e4]; rfl⟩)
/-- where a static field lies, its class's statics cell in H -/
def vx_L (C n d : String) (A : Nat → Prop) (U : State) (H : Heap) : Prop := ∃ (c : ClassId) (k : Class) (i : Nat) (f : Field) (a : Nat) (cell : Cell), U.vm.findClass C = some c ∧ U.fieldFound? C n d = some (c, k, i, f) ∧ f.isStatic = true ∧ k.statics = some a ∧ H[a]? = some cell ∧ cell.vm.isStatics = true ∧ cell.cls = c ∧ f.slot < cell.slots.size ∧ k.staticTypes[f.slot]? = some f.type ∧ ¬ A a
theorem vx_L.moved {C n d : String} {A : Nat → Prop} {u U : State} {H : Heap} (hvm : u.vm.Alike U.vm) (h : vx_L C n d A u H) : vx_L C n d A U H := by
  obtain ⟨c, k, i, f, a, cell, h1, h2, h3, h4, h5, h6, h7, h8, h9, h10⟩ := h
  obtain ⟨k', hi', he⟩ := State.fieldFound?_setVm hvm h2
  exact ⟨c, k', i, f, a, cell, by rw [hvm.findClass]; exact h1, hi', h3, by rw [he]; exact h4, h5, h6, h7, h8, by rw [he]; exact h9, h10⟩
theorem vx_L.kept {C n d : String} {A : Nat → Prop} {U : State} {H H1 : Heap} (h : vx_L C n d A U H) (hq : ∀ a : Nat, a < H.size → ¬ A a → H1[a]? = H[a]?) : vx_L C n d A U H1 := by
  obtain ⟨c, k, i, f, a, cell, h1, h2, h3, h4, h5, h6, h7, h8, h9, h10⟩ := h
  exact ⟨c, k, i, f, a, cell, h1, h2, h3, h4, by rw [hq a (Array.getElem?_eq_some_iff.mp h5).1 h10]; exact h5, h6, h7, h8, h9, h10⟩
theorem vx_L.narrow {C n d : String} {A B : Nat → Prop} {U : State} {H : Heap} (h : vx_L C n d A U H) (hAB : ∀ q, B q → A q) : vx_L C n d B U H := by
  obtain ⟨c, k, i, f, a, cell, h1, h2, h3, h4, h5, h6, h7, h8, h9, h10⟩ := h
  exact ⟨c, k, i, f, a, cell, h1, h2, h3, h4, h5, h6, h7, h8, h9, fun z => h10 (hAB _ z)⟩
theorem vx_L.word {C n d : String} {A : Nat → Prop} {s : State} {args : Array Value} (h : vx_L C n d A s s.heap) : (Cond.laysStatic C n d).before args s = true := by
  obtain ⟨c, k, i, f, a, cell, h1, h2, h3, h4, h5, h6, h7, h8, h9, -⟩ := h
  show (Cond.laysStatic C n d).holds args s none s [] = true
  exact Cond.laysStatic_of h1 h2 h3 h4 h5 h6 h7 h8 h9
/-- .. and what it holds: null or some reference -/
def vx_Zq (C n d : String) (A : Nat → Prop) (U : State) (H : Heap) : Prop := va_Zq C n d A U H ∧ vx_L C n d A U H
theorem vx_Zq.moved {C n d : String} {A : Nat → Prop} {u U : State} {H : Heap} (hvm : u.vm.Alike U.vm) (h : vx_Zq C n d A u H) : vx_Zq C n d A U H := ⟨va_Zq.moved hvm h.1, vx_L.moved hvm h.2⟩
theorem vx_Zq.kept {C n d : String} {A : Nat → Prop} {U : State} {H H1 : Heap} (h : vx_Zq C n d A U H) (hq : ∀ a : Nat, a < H.size → ¬ A a → H1[a]? = H[a]?) : vx_Zq C n d A U H1 := ⟨va_Zq.kept h.1 hq, vx_L.kept h.2 hq⟩
theorem vx_Zq.narrow {C n d : String} {A B : Nat → Prop} {U : State} {H : Heap} (h : vx_Zq C n d A U H) (hAB : ∀ q, B q → A q) : vx_Zq C n d B U H := ⟨va_Zq.narrow h.1 hAB, vx_L.narrow h.2 hAB⟩
theorem vx_Zqof {args : Array Value} {s : State} {C n d : String} {A : Nat → Prop} (hl : (Cond.laysStatic C n d).before args s = true) (hini : (Cond.initialized C).before args s = true) (h : (Cond.isRef (.static C n d)).before args s = true) (hA : ∀ a : Nat, a < s.heap.size → ¬ A a) : vx_Zq C n d A s s.heap := by
  refine ⟨va_Zqof hl hini h hA, ?_⟩
  obtain ⟨c, k, i, f, a, cell, h1, h2, h3, h4, h5, h6, h7, h8, h9⟩ := Cond.laysStatic_spec hl
  exact ⟨c, k, i, f, a, cell, h1, h2, h3, h4, h5, h6, h7, h8, h9, hA a (Array.getElem?_eq_some_iff.mp h5).1⟩
theorem vx_isRef {C n d : String} {v : Value} {A : Nat → Prop} {s : State} {args : Array Value} (h : va_Z C n d v A s s.heap) (hv : v.isRef = true) : (Cond.isRef (.static C n d)).before args s = true := by
  obtain ⟨cf, kf, fi, f, a, cell, h1, h2, h3, h4, h5, h6, h7, -⟩ := h
  have he : (Term.static C n d).eval args s none [] s = some v := by
    simp [Term.eval, State.fieldNamed?, h1, h2, h4, h5, h6, h7]
  simp only [Cond.before, Cond.holds, Cond.value, he]
  cases v <;> simp_all [Value.isRef]
theorem vx_isRefq {C n d : String} {A : Nat → Prop} {s : State} {args : Array Value} (h : va_Zq C n d A s s.heap) : (Cond.isRef (.static C n d)).before args s = true := by
  rcases h with h | ⟨t, h⟩
  · exact vx_isRef h rfl
  · exact vx_isRef h rfl
/-- the same frame, seen from here: as if the method were called anew in this heap -/
theorem vx_rebase {T : State} (X : Stand p l e R s m args below meth c T locs cells slots) {R' : Room} (hf : R'.frames ≤ R.frames) (hl : R'.locals ≤ R.locals) (hc : cells + R'.cells ≤ R.cells) (hs : slots + R'.slots ≤ R.slots) :
    Stand p l e R' ((T.setVm s.vm).setFrames (.invoking m args :: below)) m args below meth c T [] 0 0 := by
  have htop : (T.setVm s.vm).topJava?.isSome := X.here.top
  have hF : ((T.setVm s.vm).setFrames (.invoking m args :: below)).frames = .invoking m args :: below := State.frames_setFrames _ (State.cur_lt_of_top htop)
  obtain ⟨g₀, hg0⟩ := Option.isSome_iff_exists.mp htop
  obtain ⟨r, hr⟩ := State.topJava?_eq_some.mp hg0
  have hl9 : e.platform.stackLimits (T.setVm s.vm).me = e.platform.stackLimits s.me := X.limits
  have hb9 : (T.setVm s.vm).me.stackBytes = s.me.stackBytes := X.bytes
  refine ⟨X.admits, X.cas, X.clock, hF, ?_, X.hears, X.method, X.code, X.here, X.tail, X.warmed, ?_, ?_, ?_⟩
  · have h := X.room
    have hU : ((T.setVm s.vm).setFrames (.invoking m args :: below)).localsInUse = s.localsInUse := by
      rw [State.localsInUse_invoking hF (meth := meth) (c := c) X.method X.code, State.localsInUse_invoking X.frames X.method X.code]
    simp only [State.hasRoom, Bool.and_eq_true, decide_eq_true_eq] at h ⊢
    obtain ⟨⟨⟨⟨h1, h2, h3, h4, h5, h6⟩, h7⟩, h8⟩, h9⟩ := h
    rw [X.frames, List.length_cons] at h2 h3
    have q1 := X.heapSize
    have q2 := X.used
    simp only [hF, hU, List.length_cons, State.stackLimits_setFrames, State.stackBytes_setFrames, hl9, hb9]
    refine ⟨⟨⟨⟨by omega, by omega, by omega, by omega, by omega, h6⟩, ?_⟩, ?_⟩, X.book⟩
    · show T.heap.size + R'.cells ≤ e.platform.maxCells
      omega
    · show T.slotsUsed + R'.slots ≤ e.platform.maxSlots
      omega
  · rw [State.stackLimits_setFrames]; rfl
  · rw [State.stackBytes_setFrames]; rfl
  · refine ⟨?_, Nat.le_refl _, Nat.le_refl _, ?_, ?_, fun a c9 h9 => ⟨c9, h9, rfl, rfl, fun _ _ => rfl⟩⟩
    · obtain ⟨t, ht, -⟩ := State.frames_cons hr
      show T.setVm s.vm = { ((T.setVm s.vm).setFrames (.invoking m args :: below)).setFrames (T.setVm s.vm).frames with heap := T.heap, slotsUsed := T.slotsUsed }
      rw [State.setFrames_setFrames, State.setFrames_self ht]
      rfl
    · show T.slotsUsed = T.slotsUsed + ((T.heap.toList.drop T.heap.size).map (·.slots.size)).sum
      rw [List.drop_eq_nil_of_le (Nat.le_of_eq Array.length_toList)]
      rfl
    · show ((T.heap.toList.drop T.heap.size).map (·.slots.size)).sum ≤ 0
      rw [List.drop_eq_nil_of_le (Nat.le_of_eq Array.length_toList)]
      exact Nat.le_refl _
/-- 'throw new E()': new; dup; invokespecial; athrow -/
theorem vx_throw0 {cc : ByteArray} {pc : Nat} (hexec : p.tables.exec = Jvm.exec) (hb : c.code = cc) (hl : l.stackTraces = false) {own cls : String} {names : List String} {ik ic mc ms : Nat} {A : Nat → Prop}
    (hown : s.vm.findClass own = some m.cls) (hcls : Bundle.fit cls = true) (hnames : ∀ n ∈ names, Bundle.fit n = true)
    (hk : (Cond.classLink own ik cls).before args s = true) (hini : (Cond.initialized cls).before args s = true) (hat : ∀ w ∈ vx_at0 own ic cls names, w.before args s = true)
    (hgood : ∀ w ∈ Cond.classLink own ik cls :: Cond.initialized cls :: vx_at0 own ic cls names, vx_ot w = true)
    (hU : vx_Zq Bundle.tN "UNASSIGNED_STACK" Bundle.steD A s s.heap) (hN : vx_Zq Bundle.tN "SUPPRESSED_SENTINEL" Bundle.listD A s s.heap) (hS : va_S A s.heap H locs) (hsize : ls.size = c.maxLocals)
    (d0 : decode cc pc = .ok (.new ik, 3)) (d3 : decode cc (pc + 3) = .ok (.dup, 1)) (d4 : decode cc (pc + 4) = .ok (.invokespecial ic, 3)) (d7 : decode cc (pc + 7) = .ok (.athrow, 1))
    (hout : ∀ x ∈ c.exceptionTable.toList, covers x (pc + 7) = false)
    (hRframes : names.length + 3 < R.frames) (hRlocals : (rest.map fun v => v.category).sum + (13 * (names.length + 1) + 42) ≤ R.locals) (hRcells : cells + 1 ≤ R.cells) (hRslots : slots + 6 ≤ R.slots) (hlocks : meth.locks = false)
    (hx : ∀ t : State, s.vm.Alike t.vm → H.size ≤ t.heap.size → (∀ q : Nat, q < H.size → t.heap[q]? = H[q]?) → XC cls s t)
    (hf : ∀ z ∈ locs, free z.base) (hc : cells + 1 ≤ mc) (hs : slots + 6 ≤ ms) :
    W p l e R s m args below meth c H locs cells slots (vx_MQ below Qc XC args s mc ms free) (F0 m pc ls rest) := by
  intro T hT X
  have htr : e.platform.stackTraces = false := (show e.platform.stackTraces = l.stackTraces by rw [X.admits.platform]).trans hl
  have Y := vx_rebase X (R' := { frames := R.frames, locals := R.locals, cells := 1, slots := 6 }) (Nat.le_refl _) (Nat.le_refl _) hRcells hRslots
  obtain ⟨s', hA⟩ : ∃ z, z = (T.setVm s.vm).setFrames (.invoking m args :: below) := ⟨_, rfl⟩
  rw [← hA] at Y
  have hvm : s'.vm = s.vm := by rw [hA]; rfl
  have hhp : s'.heap = H := by rw [hA]; exact hT
  have hW0 : s.WarmedH s'.vm := by rw [hvm]; exact State.WarmedH.refl s
  have hat' : ∀ w ∈ vx_at0 own ic cls names, w.before args s' = true := fun w hw => vx_ot_at hW0 hvm.symm (hgood w (List.mem_cons_of_mem _ (List.mem_cons_of_mem _ hw))) (hat w hw)
  have hk' : (Cond.classLink own ik cls).before args s' = true := vx_ot_at hW0 hvm.symm (hgood _ List.mem_cons_self) hk
  have hini' : (Cond.initialized cls).before args s' = true := vx_ot_at hW0 hvm.symm (hgood _ (List.mem_cons_of_mem _ List.mem_cons_self)) hini
  have hU' : vx_Zq Bundle.tN "UNASSIGNED_STACK" Bundle.steD A s' s'.heap := by rw [hhp]; exact vx_Zq.moved hW0.alike (hU.kept hS.2.1)
  have hN' : vx_Zq Bundle.tN "SUPPRESSED_SENTINEL" Bundle.listD A s' s'.heap := by rw [hhp]; exact vx_Zq.moved hW0.alike (hN.kept hS.2.1)
  have h : ∀ w ∈ Bundle.ownAtoms0 own ic cls names, w.before args s' = true := vx_own hat' (vx_isRefq hU'.1) (vx_isRefq hN'.1) hU'.2.word hN'.2.word
  have hown' : s'.vm.findClass own = some m.cls := by rw [hvm]; exact hown
  have hins : (Cond.instantiable cls 6).before args s' = true := h _ (by simp [Bundle.ownAtoms0])
  obtain ⟨vm₁, cX, kX, hfX, hkX, -, -, X₁, st1⟩ := Y.newCold hexec (own := own) (C := cls) (index := ik) (n := 6) hown' hk' hins hini'
    (g := F0 m pc ls rest) rfl (by rw [hb]; exact d0) (Nat.le_refl _) (Nat.le_refl _)
  generalize hT1 : (T.setVm vm₁).pushCell { cls := cX, slots := kX.instanceTypes.map defaultValue, vm := .none } = T1 at X₁ st1
  have hcat : (Value.ref T.heap.size).category = 1 := rfl
  have hcellA : T1.heap[T.heap.size]? = some (freshCell cX kX) := by rw [← hT1]; exact State.heap_pushCell_size _ _
  have d3' : decode c.code (pc + 3) = .ok (.dup, 1) := by rw [hb]; exact d3
  obtain ⟨U, hsteps, hrun, hend, hW, hsame, ce, hce, hO⟩ := X₁.ctorThrow0 hexec htr (own := own) (cls := cls) (names := names) (ic := ic) hown' hcls hnames h (fun x hx => nomatch hx) hfX hkX hcellA (by rw [hhp, hT]; exact Nat.le_refl _)
    (g := { method := m, pc := pc + 4, locals := ls, stack := .ref T.heap.size :: .ref T.heap.size :: rest, locked := none }) rfl hsize rfl rfl (rest := rest) rfl
    (by rw [hb]; exact d4) (by rw [hb]; exact d7) hout hRframes (by simp only [List.map_cons, List.sum_cons, hcat]; omega) hlocks
  obtain ⟨f1, f2⟩ := vx_frame hsame
  rw [hhp] at f1 f2
  have hWs : s.WarmedH U.vm := State.WarmedH.trans hW0 hW
  have hcl : s.vm.findClass cls = some ce.cls := by
    have h9 := hO.cls
    rw [hvm] at h9
    exact h9
  have hall : s.sameButNew ({ U with vm := s.vm } : State) locs mc ms := by
    subst hA
    obtain ⟨e1, e2⟩ := hsame
    rw [State.setFrames_setFrames] at e1
    have h2 : (T.setVm s.vm).sameButNew ({ U with vm := s.vm } : State) [] (0 + 1) (0 + 6) := ⟨e1, e2⟩
    have h3 := X.same.trans h2
    rw [List.append_nil] at h3
    exact h3.mono hc hs
  refine ⟨U, ?_, .threw T.heap.size, hrun, hend, Or.inr ⟨T.heap.size, rfl, cls, ce, locs, hx U hWs.alike f1 (fun q hq => f2 q hq (fun z hz => nomatch hz)), hce, hO.vm, hcl, hWs, hall, hf⟩⟩
  refine st1 _ ?_
  show Steps p.tables e below (T1.setTop { method := m, pc := pc + 3, locals := ls, stack := .ref T.heap.size :: rest, locked := none }) _
  jvm_step X₁.here [X₁.here.top, hexec, d3', Value.category]
  exact hsteps
/-- 'throw new E("text")': new; dup; ldc; invokespecial; athrow -/
theorem vx_throwS {cc : ByteArray} {pc : Nat} (hexec : p.tables.exec = Jvm.exec) (hb : c.code = cc) (hl : l.stackTraces = false) {own cls text : String} {names : List String} {ik is ic mc ms sa : Nat} {A : Nat → Prop}
    (hown : s.vm.findClass own = some m.cls) (hcls : Bundle.fit cls = true) (hnames : ∀ n ∈ names, Bundle.fit n = true)
    (hk : (Cond.classLink own ik cls).before args s = true) (hini : (Cond.initialized cls).before args s = true) (hstr : vk_R own is text sa s) (hat : ∀ w ∈ vx_atS own ic cls names, w.before args s = true)
    (hgood : ∀ w ∈ Cond.classLink own ik cls :: Cond.initialized cls :: vx_atS own ic cls names, vx_ot w = true)
    (hU : vx_Zq Bundle.tN "UNASSIGNED_STACK" Bundle.steD A s s.heap) (hN : vx_Zq Bundle.tN "SUPPRESSED_SENTINEL" Bundle.listD A s s.heap) (hS : va_S A s.heap H locs) (hsize : ls.size = c.maxLocals)
    (d0 : decode cc pc = .ok (.new ik, 3)) (d3 : decode cc (pc + 3) = .ok (.dup, 1)) (d4 : decode cc (pc + 4) = .ok (.ldc is, 2)) (d6 : decode cc (pc + 6) = .ok (.invokespecial ic, 3)) (d9 : decode cc (pc + 9) = .ok (.athrow, 1))
    (hout : ∀ x ∈ c.exceptionTable.toList, covers x (pc + 9) = false)
    (hRframes : names.length + 3 < R.frames) (hRlocals : (rest.map fun v => v.category).sum + (13 * (names.length + 1) + 43) ≤ R.locals) (hRcells : cells + 1 ≤ R.cells) (hRslots : slots + 6 ≤ R.slots) (hlocks : meth.locks = false)
    (hx : ∀ t : State, s.vm.Alike t.vm → H.size ≤ t.heap.size → (∀ q : Nat, q < H.size → t.heap[q]? = H[q]?) → XC cls s t)
    (hf : ∀ z ∈ locs, free z.base) (hc : cells + 1 ≤ mc) (hs : slots + 6 ≤ ms) :
    W p l e R s m args below meth c H locs cells slots (vx_MQ below Qc XC args s mc ms free) (F0 m pc ls rest) := by
  intro T hT X
  have htr : e.platform.stackTraces = false := (show e.platform.stackTraces = l.stackTraces by rw [X.admits.platform]).trans hl
  have Y := vx_rebase X (R' := { frames := R.frames, locals := R.locals, cells := 1, slots := 6 }) (Nat.le_refl _) (Nat.le_refl _) hRcells hRslots
  obtain ⟨s', hA⟩ : ∃ z, z = (T.setVm s.vm).setFrames (.invoking m args :: below) := ⟨_, rfl⟩
  rw [← hA] at Y
  have hvm : s'.vm = s.vm := by rw [hA]; rfl
  have hhp : s'.heap = H := by rw [hA]; exact hT
  have hW0 : s.WarmedH s'.vm := by rw [hvm]; exact State.WarmedH.refl s
  have hat' : ∀ w ∈ vx_atS own ic cls names, w.before args s' = true := fun w hw => vx_ot_at hW0 hvm.symm (hgood w (List.mem_cons_of_mem _ (List.mem_cons_of_mem _ hw))) (hat w hw)
  have hk' : (Cond.classLink own ik cls).before args s' = true := vx_ot_at hW0 hvm.symm (hgood _ List.mem_cons_self) hk
  have hini' : (Cond.initialized cls).before args s' = true := vx_ot_at hW0 hvm.symm (hgood _ (List.mem_cons_of_mem _ List.mem_cons_self)) hini
  have hU' : vx_Zq Bundle.tN "UNASSIGNED_STACK" Bundle.steD A s' s'.heap := by rw [hhp]; exact vx_Zq.moved hW0.alike (hU.kept hS.2.1)
  have hN' : vx_Zq Bundle.tN "SUPPRESSED_SENTINEL" Bundle.listD A s' s'.heap := by rw [hhp]; exact vx_Zq.moved hW0.alike (hN.kept hS.2.1)
  have h : ∀ w ∈ Bundle.ownAtoms own ic cls names, w.before args s' = true := vx_own hat' (vx_isRefq hU'.1) (vx_isRefq hN'.1) hU'.2.word hN'.2.word
  have hown' : s'.vm.findClass own = some m.cls := by rw [hvm]; exact hown
  have hins : (Cond.instantiable cls 6).before args s' = true := h _ (by simp [Bundle.ownAtoms])
  obtain ⟨vm₁, cX, kX, hfX, hkX, -, -, X₁, st1⟩ := Y.newCold hexec (own := own) (C := cls) (index := ik) (n := 6) hown' hk' hins hini'
    (g := F0 m pc ls rest) rfl (by rw [hb]; exact d0) (Nat.le_refl _) (Nat.le_refl _)
  generalize hT1 : (T.setVm vm₁).pushCell { cls := cX, slots := kX.instanceTypes.map defaultValue, vm := .none } = T1 at X₁ st1
  have hcat : (Value.ref T.heap.size).category = 1 := rfl
  have hcellA : T1.heap[T.heap.size]? = some (freshCell cX kX) := by rw [← hT1]; exact State.heap_pushCell_size _ _
  have d3' : decode c.code (pc + 3) = .ok (.dup, 1) := by rw [hb]; exact d3
  have d4' : decode c.code (pc + 4) = .ok (.ldc is, 2) := by rw [hb]; exact d4
  have hstr' : vk_R own is text sa s' := vk_R.warm hW0 hstr
  obtain ⟨U, hsteps, hrun, hend, hW, hsame, ce, hce, hO⟩ := X₁.ctorThrowS hexec htr (own := own) (cls := cls) (names := names) (ic := ic) hown' hcls hnames h (fun x hx => nomatch hx) hfX hkX hcellA (by rw [hhp, hT]; exact Nat.le_refl _) (msg := .ref sa) rfl
    (g := { method := m, pc := pc + 6, locals := ls, stack := .ref sa :: .ref T.heap.size :: .ref T.heap.size :: rest, locked := none }) rfl hsize rfl rfl (rest := rest) rfl
    (by rw [hb]; exact d6) (by rw [hb]; exact d9) hout hRframes (by simp only [List.map_cons, List.sum_cons, hcat]; omega) hlocks
  obtain ⟨f1, f2⟩ := vx_frame hsame
  rw [hhp] at f1 f2
  have hWs : s.WarmedH U.vm := State.WarmedH.trans hW0 hW
  have hcl : s.vm.findClass cls = some ce.cls := by
    have h9 := hO.cls
    rw [hvm] at h9
    exact h9
  have hall : s.sameButNew ({ U with vm := s.vm } : State) locs mc ms := by
    subst hA
    obtain ⟨e1, e2⟩ := hsame
    rw [State.setFrames_setFrames] at e1
    have h2 : (T.setVm s.vm).sameButNew ({ U with vm := s.vm } : State) [] (0 + 1) (0 + 6) := ⟨e1, e2⟩
    have h3 := X.same.trans h2
    rw [List.append_nil] at h3
    exact h3.mono hc hs
  refine ⟨U, ?_, .threw T.heap.size, hrun, hend, Or.inr ⟨T.heap.size, rfl, cls, ce, locs, hx U hWs.alike f1 (fun q hq => f2 q hq (fun z hz => nomatch hz)), hce, hO.vm, hcl, hWs, hall, hf⟩⟩
  refine st1 _ ?_
  show Steps p.tables e below (T1.setTop { method := m, pc := pc + 3, locals := ls, stack := .ref T.heap.size :: rest, locked := none }) _
  jvm_step X₁.here [X₁.here.top, hexec, d3', Value.category]
  exact X₁.ldcString hexec (own := own) (text := text) (index := is) (a := sa) hown' hstr'.1 hstr'.2
    (g := { method := m, pc := pc + 4, locals := ls, stack := .ref T.heap.size :: .ref T.heap.size :: rest, locked := none }) rfl d4' _ hsteps
/-- 'throw new E("text")', the text by a wide index -/
theorem vx_throwSW {cc : ByteArray} {pc : Nat} (hexec : p.tables.exec = Jvm.exec) (hb : c.code = cc) (hl : l.stackTraces = false) {own cls text : String} {names : List String} {ik is ic mc ms sa : Nat} {A : Nat → Prop}
    (hown : s.vm.findClass own = some m.cls) (hcls : Bundle.fit cls = true) (hnames : ∀ n ∈ names, Bundle.fit n = true)
    (hk : (Cond.classLink own ik cls).before args s = true) (hini : (Cond.initialized cls).before args s = true) (hstr : vk_R own is text sa s) (hat : ∀ w ∈ vx_atS own ic cls names, w.before args s = true)
    (hgood : ∀ w ∈ Cond.classLink own ik cls :: Cond.initialized cls :: vx_atS own ic cls names, vx_ot w = true)
    (hU : vx_Zq Bundle.tN "UNASSIGNED_STACK" Bundle.steD A s s.heap) (hN : vx_Zq Bundle.tN "SUPPRESSED_SENTINEL" Bundle.listD A s s.heap) (hS : va_S A s.heap H locs) (hsize : ls.size = c.maxLocals)
    (d0 : decode cc pc = .ok (.new ik, 3)) (d3 : decode cc (pc + 3) = .ok (.dup, 1)) (d4 : decode cc (pc + 4) = .ok (.ldc_w is, 3)) (d7 : decode cc (pc + 7) = .ok (.invokespecial ic, 3)) (d10 : decode cc (pc + 10) = .ok (.athrow, 1))
    (hout : ∀ x ∈ c.exceptionTable.toList, covers x (pc + 10) = false)
    (hRframes : names.length + 3 < R.frames) (hRlocals : (rest.map fun v => v.category).sum + (13 * (names.length + 1) + 43) ≤ R.locals) (hRcells : cells + 1 ≤ R.cells) (hRslots : slots + 6 ≤ R.slots) (hlocks : meth.locks = false)
    (hx : ∀ t : State, s.vm.Alike t.vm → H.size ≤ t.heap.size → (∀ q : Nat, q < H.size → t.heap[q]? = H[q]?) → XC cls s t)
    (hf : ∀ z ∈ locs, free z.base) (hc : cells + 1 ≤ mc) (hs : slots + 6 ≤ ms) :
    W p l e R s m args below meth c H locs cells slots (vx_MQ below Qc XC args s mc ms free) (F0 m pc ls rest) := by
  intro T hT X
  have htr : e.platform.stackTraces = false := (show e.platform.stackTraces = l.stackTraces by rw [X.admits.platform]).trans hl
  have Y := vx_rebase X (R' := { frames := R.frames, locals := R.locals, cells := 1, slots := 6 }) (Nat.le_refl _) (Nat.le_refl _) hRcells hRslots
  obtain ⟨s', hA⟩ : ∃ z, z = (T.setVm s.vm).setFrames (.invoking m args :: below) := ⟨_, rfl⟩
  rw [← hA] at Y
  have hvm : s'.vm = s.vm := by rw [hA]; rfl
  have hhp : s'.heap = H := by rw [hA]; exact hT
  have hW0 : s.WarmedH s'.vm := by rw [hvm]; exact State.WarmedH.refl s
  have hat' : ∀ w ∈ vx_atS own ic cls names, w.before args s' = true := fun w hw => vx_ot_at hW0 hvm.symm (hgood w (List.mem_cons_of_mem _ (List.mem_cons_of_mem _ hw))) (hat w hw)
  have hk' : (Cond.classLink own ik cls).before args s' = true := vx_ot_at hW0 hvm.symm (hgood _ List.mem_cons_self) hk
  have hini' : (Cond.initialized cls).before args s' = true := vx_ot_at hW0 hvm.symm (hgood _ (List.mem_cons_of_mem _ List.mem_cons_self)) hini
  have hU' : vx_Zq Bundle.tN "UNASSIGNED_STACK" Bundle.steD A s' s'.heap := by rw [hhp]; exact vx_Zq.moved hW0.alike (hU.kept hS.2.1)
  have hN' : vx_Zq Bundle.tN "SUPPRESSED_SENTINEL" Bundle.listD A s' s'.heap := by rw [hhp]; exact vx_Zq.moved hW0.alike (hN.kept hS.2.1)
  have h : ∀ w ∈ Bundle.ownAtoms own ic cls names, w.before args s' = true := vx_own hat' (vx_isRefq hU'.1) (vx_isRefq hN'.1) hU'.2.word hN'.2.word
  have hown' : s'.vm.findClass own = some m.cls := by rw [hvm]; exact hown
  have hins : (Cond.instantiable cls 6).before args s' = true := h _ (by simp [Bundle.ownAtoms])
  obtain ⟨vm₁, cX, kX, hfX, hkX, -, -, X₁, st1⟩ := Y.newCold hexec (own := own) (C := cls) (index := ik) (n := 6) hown' hk' hins hini'
    (g := F0 m pc ls rest) rfl (by rw [hb]; exact d0) (Nat.le_refl _) (Nat.le_refl _)
  generalize hT1 : (T.setVm vm₁).pushCell { cls := cX, slots := kX.instanceTypes.map defaultValue, vm := .none } = T1 at X₁ st1
  have hcat : (Value.ref T.heap.size).category = 1 := rfl
  have hcellA : T1.heap[T.heap.size]? = some (freshCell cX kX) := by rw [← hT1]; exact State.heap_pushCell_size _ _
  have d3' : decode c.code (pc + 3) = .ok (.dup, 1) := by rw [hb]; exact d3
  have d4' : decode c.code (pc + 4) = .ok (.ldc_w is, 3) := by rw [hb]; exact d4
  have hstr' : vk_R own is text sa s' := vk_R.warm hW0 hstr
  obtain ⟨U, hsteps, hrun, hend, hW, hsame, ce, hce, hO⟩ := X₁.ctorThrowS hexec htr (own := own) (cls := cls) (names := names) (ic := ic) hown' hcls hnames h (fun x hx => nomatch hx) hfX hkX hcellA (by rw [hhp, hT]; exact Nat.le_refl _) (msg := .ref sa) rfl
    (g := { method := m, pc := pc + 7, locals := ls, stack := .ref sa :: .ref T.heap.size :: .ref T.heap.size :: rest, locked := none }) rfl hsize rfl rfl (rest := rest) rfl
    (by rw [hb]; exact d7) (by rw [hb]; exact d10) hout hRframes (by simp only [List.map_cons, List.sum_cons, hcat]; omega) hlocks
  obtain ⟨f1, f2⟩ := vx_frame hsame
  rw [hhp] at f1 f2
  have hWs : s.WarmedH U.vm := State.WarmedH.trans hW0 hW
  have hcl : s.vm.findClass cls = some ce.cls := by
    have h9 := hO.cls
    rw [hvm] at h9
    exact h9
  have hall : s.sameButNew ({ U with vm := s.vm } : State) locs mc ms := by
    subst hA
    obtain ⟨e1, e2⟩ := hsame
    rw [State.setFrames_setFrames] at e1
    have h2 : (T.setVm s.vm).sameButNew ({ U with vm := s.vm } : State) [] (0 + 1) (0 + 6) := ⟨e1, e2⟩
    have h3 := X.same.trans h2
    rw [List.append_nil] at h3
    exact h3.mono hc hs
  refine ⟨U, ?_, .threw T.heap.size, hrun, hend, Or.inr ⟨T.heap.size, rfl, cls, ce, locs, hx U hWs.alike f1 (fun q hq => f2 q hq (fun z hz => nomatch hz)), hce, hO.vm, hcl, hWs, hall, hf⟩⟩
  refine st1 _ ?_
  show Steps p.tables e below (T1.setTop { method := m, pc := pc + 3, locals := ls, stack := .ref T.heap.size :: rest, locked := none }) _
  jvm_step X₁.here [X₁.here.top, hexec, d3', Value.category]
  exact X₁.ldcStringW hexec (own := own) (text := text) (index := is) (a := sa) hown' hstr'.1 hstr'.2
    (g := { method := m, pc := pc + 4, locals := ls, stack := .ref T.heap.size :: .ref T.heap.size :: rest, locked := none }) rfl d4' _ hsteps
end Ends
section Bodies
variable {l : Launch}
theorem vx_ofW {y : MethodName} {ws ws' : List Cond} {rm : Room} {Pc : Array Value → State → Prop} {Qc : Array Value → State → Outcome → State → Prop} {XC : String → State → State → Prop} {mc ms : Nat} {free : Addr → Prop} {cc : ByteArray} {maxL : Nat} {ret : Option FieldType}
    (hy : plainName y.cls = true) (hw : ws = Cond.code y cc maxL ret :: ws')
    (body : ∀ p e s m args below meth c s₁, BodyLoose p l y (headSpec ws rm) cc maxL ret e s m args below meth c s₁ → c.maxLocals = maxL → (∀ x ∈ c.exceptionTable.toList, False) → Pc args s →
      W p l e (headSpec ws rm).room s m args below meth c s.heap [] 0 0 (vx_MQ below Qc XC args s mc ms free) (entryFrame m args maxL)) : vx_Met l y ws rm Pc Qc XC mc ms free := by
  refine MetFree.of_bodyS (code := cc) (maxLocals := maxL) (ret := ret) hy ?_ ?_
  · intro args s m h hn
    obtain ⟨meth, c, h1, h2, h3, h4, h5, h6, -, -⟩ := Cond.code_spec hn (atoms_spec (ws := ws) h _ (by rw [hw]; exact List.mem_cons_self))
    exact ⟨meth, c, h1, h2, h3, h4, h5, h6⟩
  · intro p e s m args below meth c s₁ B hml hP _
    have hh0 : s₁.heap = s.heap := by rw [B.state]; rfl
    have ht : ∀ x ∈ c.exceptionTable.toList, False := by
      obtain ⟨meth9, c9, h1, h2, -, -, -, -, h7, -⟩ := Cond.code_spec B.named (atoms_spec (ws := ws) B.pre _ (by rw [hw]; exact List.mem_cons_self))
      cases Option.some.inj (h1.symm.trans B.method)
      cases Option.some.inj (h2.symm.trans (Stand.of_body B).code)
      intro x hx
      rw [Array.isEmpty_iff.mp h7] at hx
      cases hx
    obtain ⟨t, a1, o, b1, b2, b3⟩ := body p e s m args below meth c s₁ B hml ht hP s₁ hh0 (Stand.of_body B)
    exact ⟨t, o, a1, b1, b2, b3⟩
/-- the table of a body with handlers -/
theorem vx_table {p : Program} {x y : MethodName} {S : Spec} {cc bytes : ByteArray} {maxL maxL' : Nat} {ret ret' : Option FieldType} {e : Env} {s s₁ : State} {m : MethodId} {args : Array Value} {below : List Frame} {meth : Method} {c : Code} {hh : List (Nat × Nat × Nat × Nat)}
    (B : BodyLoose p l y S cc maxL ret e s m args below meth c s₁) (h : (Cond.codeWith y bytes maxL' ret' hh).before args s = true) : c.exceptionTable.toList = tableOf hh := by
  obtain ⟨m9, meth9, c9, hn9, h1, h2, -, -, h6, -⟩ := Cond.codeWith_spec h
  cases Option.some.inj (hn9.symm.trans B.named)
  cases Option.some.inj (h1.symm.trans B.method)
  cases Option.some.inj (h2.symm.trans (Stand.of_body B).code)
  rw [← h6, table_eq]
end Bodies
end VXA
/-! ===== END ===== -/
/-! ===== BEGIN a static call of a method with an exception table ===== -/
section VXS
variable {p : Program} {l : Launch} {e : Env} {R : Room} {s : State} {m : MethodId} {args : Array Value} {below : List Frame} {meth : Method} {c : Code} {T : State} {H : Heap} {locs : List Loc} {cells slots : Nat}
abbrev vx_CSW (R : Room) (s : State) (args : Array Value) (own : String) (index : Nat) (y : MethodName) (bytes : ByteArray) (maxL : Nat) (ret : Option FieldType) (hh : List (Nat × Nat × Nat × Nat)) (ws : List Cond) (rm : Room) (mc ms n : Nat) : Prop :=
  (rm.cells = mc ∧ rm.slots = ms ∧ rm.frames + 1 ≤ R.frames ∧ 8 + (maxL + 11) + rm.locals ≤ R.locals ∧ (∀ w ∈ ws, ∀ (a' : Array Value) (U : State), s.WarmedH U.vm → w.before a' U = true) ∧ Cond.codeWith y bytes maxL ret hh ∈ ws) ∧
  (Cond.codeWith y bytes maxL ret hh).before args s = true ∧ (Cond.initialized y.cls).before args s = true ∧ (y.cls ≠ "java/lang/invoke/MethodHandle" ∧ y.cls ≠ "java/lang/invoke/VarHandle") ∧
  (∀ sig, parseMethodDescriptor y.desc = some sig → n = sig.parameters.length) ∧ (Cond.methodLink own index y).before args s = true ∧ (Cond.static y).before args s = true
theorem vx_cwSW {own : String} {index maxL mc ms : Nat} {y : MethodName} {bytes : ByteArray} {ret : Option FieldType} {hh : List (Nat × Nat × Nat × Nat)} {Ts ws ws' : List Cond} {rm : Room} (n : Nat) (ht : ∀ w ∈ Ts, w.before args s = true) (hT : GoodIn Ts (va_wsS own index y ws)) (hw : ws = Cond.codeWith y bytes maxL ret hh :: ws') (hrc : rm.cells = mc) (hrs : rm.slots = ms)
    (hd : y.cls ≠ "java/lang/invoke/MethodHandle" ∧ y.cls ≠ "java/lang/invoke/VarHandle" ∧ (parseMethodDescriptor y.desc).map (fun d => d.parameters.length) = some n) (hR : rm.frames + 1 ≤ R.frames ∧ 8 + (maxL + 11) + rm.locals ≤ R.locals) :
    vx_CSW R s args own index y bytes maxL ret hh ws rm mc ms n := by
  have ok : ∀ w ∈ va_wsS own index y ws, w.before args s = true := fun w h => ht w (hT w h).1
  have hG : GoodIn Ts ws := fun w h => hT w (by unfold va_wsS; exact List.mem_append_right _ h)
  have hc : Cond.codeWith y bytes maxL ret hh ∈ ws := by rw [hw]; exact List.mem_cons_self
  refine ⟨⟨hrc, hrs, hR.1, hR.2, pay_in ht hG, hc⟩, ht _ (hG _ hc).1, ok _ (by simp [va_wsS]), ⟨hd.1, hd.2.1⟩, fun sig h => ?_, ok _ (by simp [va_wsS]), ok _ (by simp [va_wsS])⟩
  have h2 := hd.2.2
  rw [h] at h2
  exact (Option.some.inj h2).symm
theorem vx_callSW (X : Stand p l e R s m args below meth c T locs cells slots) (hexec : p.tables.exec = Jvm.exec) {own : String} {index : Nat} {y : MethodName} {bytes : ByteArray} {maxL : Nat} {ret : Option FieldType} {hh : List (Nat × Nat × Nat × Nat)}
    (hown : s.vm.findClass own = some m.cls) (hlink : (Cond.methodLink own index y).before args s = true) (hstat : (Cond.static y).before args s = true) (hinit : (Cond.initialized y.cls).before args s = true)
    (hcode : (Cond.codeWith y bytes maxL ret hh).before args s = true) (hy : y.cls ≠ "java/lang/invoke/MethodHandle" ∧ y.cls ≠ "java/lang/invoke/VarHandle")
    {W9 : Nat} {Pre : Pt → Array Value → Prop} {Post : Pt → Array Value → Option Value → Pt → Prop} (hK : Back l R p e below s args y 3 W9 Pre Post)
    {g : JFrame} (hg : g.method = m) (hsize : g.locals.size = c.maxLocals) {argsL rest : List Value} (hlen : ∀ sig, parseMethodDescriptor y.desc = some sig → argsL.length = sig.parameters.length)
    (hstack : g.stack = argsL.reverse ++ rest) (hW : 2 * g.monitorRoom + (rest.map fun v => v.category).sum ≤ W9) (hdg : decode c.code g.pc = .ok (.invokestatic index, 3))
    (hpre : ∀ vm₁, s.WarmedH vm₁ → Pre ⟨T.setVm vm₁, locs, cells, slots⟩ argsL.toArray) :
    ∃ (v : Option Value) (vm₁ : Vm) (B : Pt), s.WarmedH vm₁ ∧ Stand p l e R s m args below meth c B.U B.locs B.cells B.slots ∧ Post ⟨T.setVm vm₁, locs, cells, slots⟩ argsL.toArray v B ∧
      ∀ target, Steps p.tables e below (B.U.setTop { g with pc := g.pc + 3, stack := v.toList ++ rest }) target → Steps p.tables e below (T.setTop g) target := by
  obtain ⟨mk, methM, cM, hnamed, hmethM, -, -, -, -, -, -, hsigM⟩ := Cond.codeWith_spec hcode
  have hstatic : methM.isStatic = true := Cond.static_spec hnamed hmethM hstat
  obtain ⟨kP, hkP, -⟩ := className_of_methodNamed hnamed
  have hinitP : kP.init = .initialized := Cond.initialized_spec (findClass_of_methodNamed hnamed) hkP hinit
  obtain ⟨vm₁, X₁, hstep₁⟩ := X.invokestatic hexec hown hlink hnamed hmethM hstatic hkP hinitP hy (g := g) hg (argsL := argsL) (rest := rest) (hlen _ hsigM) hstack hdg
  obtain ⟨v, B, X', hpost, hsteps⟩ := hK m meth c ⟨T.setVm vm₁, locs, cells, slots⟩ { g with stack := rest } (.invokestatic index) mk argsL.toArray X₁ hg hsize hdg hW (X₁.named hnamed) (hpre vm₁ X₁.warmed)
  exact ⟨v, vm₁, B, X₁.warmed, X', hpost, fun target h => hstep₁ _ fun acts => by rw [doInvoke_state]; exact hsteps.trans h⟩
theorem vx_runSW {y : MethodName} {bytes cc : ByteArray} {maxL nL mc ms n index : Nat} {ret : Option FieldType} {hh : List (Nat × Nat × Nat × Nat)} {ws : List Cond} {rm : Room} {Pc : Array Value → State → Prop} {Qc : Array Value → State → Outcome → State → Prop} {free : Addr → Prop} {Ts : List Cond} {own : String} {As rest : List Value} {g : JFrame}
    (S : CallFix p m c cc nL s args Ts own) (hM : Met l y ws rm Pc Qc mc ms free) (cw : vx_CSW R s args own index y bytes maxL ret hh ws rm mc ms n) (hp : PreS s H Pc As)
    (hg : g.method = m) (hn : As.length = n) (hsize : g.locals.size = nL) (hstack : g.stack = As.reverse ++ rest) (hW : 2 * g.monitorRoom + (rest.map fun v => v.category).sum ≤ 8) (hdg : decode cc g.pc = .ok (.invokestatic index, 3)) (hf : cells + mc ≤ R.cells ∧ slots + ms ≤ R.slots) :
    va_Run p l e R s m args below meth c H locs cells slots mc ms g rest (Qc As.toArray) (free) := by
  obtain ⟨⟨hrc, hrs, hfr, hlo, hws, hcw⟩, hcode, hini, hy, hlen, hl, hstt⟩ := cw
  have hK : Back l R p e below s args y 3 8 (PreOf R mc ms Pc) (PostOf Qc mc ms free) := va_backW (hh := hh) (bytes := bytes) (maxL := maxL) (ret := ret) hM hp.1 hrc hrs hfr hlo hws hcw (fun a' U hW => word_at hW (Or.inl (by first | rfl | simp [Cond.onTables, Cond.keeps, Cond.steady])) hini)
  obtain ⟨hx, hb, hml, ho, -⟩ := S
  intro T hT X
  obtain ⟨v, vm₁, ⟨U', l2, c2, s2⟩, hW₁, X', ⟨g', mk, t, L, e1, e2, hq, h1, hL, h2, h3⟩, st⟩ := vx_callSW X hx (hh := hh) (bytes := bytes) (maxL := maxL) (ret := ret) ho hl hstt hini hcode hy hK hg (hsize.trans hml.symm) (argsL := As) (rest := rest) (fun sig h => hn.trans (hlen sig h)) hstack hW (by rw [hb]; exact hdg)
    (fun vm₁ hW₁ => ⟨hf.1, hf.2, hp.2 (T.setVm vm₁) hT hW₁⟩)
  dsimp only [Pt.U, Pt.locs, Pt.cells, Pt.slots] at X' e1 e2 h1 h2 h3 st
  subst h1; subst h2; subst h3
  exact ⟨v, (T.setVm vm₁).calling g' mk As.toArray, t, U', L, hT, X', hL, e1, e2, hq, st⟩
/-- not caught here, past rows that name other classes: it goes on to the caller -/
theorem vx_outP {p : Program} {l : Launch} {e : Env} {R : Room} {s : State} {m : MethodId} {args : Array Value} {below : List Frame} {meth : Method} {c : Code} {H : Heap} {locs : List Loc} {cells slots : Nat} {free : Addr → Prop} {ls : Array Slot} {rest : List Value} {Qc : Array Value → State → Outcome → State → Prop} {XC : String → State → State → Prop}
    {pc : Nat} {own E : String} {ce : Cell} {q : Addr} {mc ms : Nat} (hown : s.vm.findClass own = some m.cls) (hlocks : meth.locks = false)
    (hpass : ∀ z ∈ c.exceptionTable.toList, covers z pc = false ∨ (z.catchType ≠ 0 ∧ ∃ nm : String, (Cond.classLink own z.catchType nm).before args s = true ∧ va_Nc E nm s)) (hcell : H[q]? = some ce) (hv : ce.vm = .none) (hcl : s.vm.findClass E = some ce.cls)
    (hx : ∀ t : State, t.heap = H → s.vm.Alike t.vm → XC E s t) (hf : ∀ z ∈ locs, free z.base) (hc : cells ≤ mc) (hs : slots ≤ ms) :
    vx_W p l e R s m args below meth c H locs cells slots (vx_MQ below Qc XC args s mc ms free) (F0 m pc ls rest) q := by
  intro T hT X
  have hpl : e.platform.magicAccessors = ({} : Platform).magicAccessors := by rw [X.admits.platform]
  obtain ⟨vm', hW', X', st⟩ := X.outThrough hlocks q (g := F0 m pc ls rest) rfl rfl rfl (cell := ce) (by rw [hT]; exact hcell) (by rw [hv]; rfl)
    (by obtain ⟨k9, h9, -⟩ := Vm.findClass_spec hcl; exact ⟨k9, h9⟩) (fun z hz => by
      rcases hpass z hz with h | ⟨hz0, nm, hl1, hn1⟩
      · exact Or.inl h
      · obtain ⟨c6, hc6, hcl6⟩ := Cond.classLink_spec hown hl1 e.platform hpl
        obtain ⟨a8, b8, h1, h2, h3⟩ := hn1
        cases Option.some.inj (h1.symm.trans hcl)
        cases Option.some.inj (h2.symm.trans hc6)
        exact Or.inr ⟨hz0, _, hcl6, h3⟩)
  obtain ⟨g₀, hfr⟩ := X'.frames_eq
  have hcell9 : ((T.setVm vm').setFrames (.throwing q :: below)).heap[q]? = some ce := by
    show T.heap[q]? = some ce
    rw [hT]; exact hcell
  have hend : Ended ((T.setVm vm').setFrames (.throwing q :: below)) below (.threw q) := State.frames_setFrames _ (State.cur_lt_of_frames hfr)
  refine ⟨(T.setVm vm').setFrames (.throwing q :: below), ?_, .threw q, X'.here.running, hend, Or.inr ⟨q, rfl, E, ce, locs, hx _ hT (X'.ends _).1.alike, hcell9, hv, hcl, (X'.ends _).1, (X'.ends _).2.mono hc hs, hf⟩⟩
  rw [X.pushThrowing_eq]
  exact st
/-- a thing of a world lies in the heap -/
theorem vx_lt {D : va_G} {cl : List vw_C} {ws : va_W} {H1 : Heap} (h : va_P D cl ws H1) {k : Nat} {q : Nat × va_E} (hk : ws[k]? = some q) : q.1 < H1.size := (h k q hk).lt
end VXS
/-! ===== END ===== -/
/-! ===== BEGIN methods with a table of their own: called by a name, returning or throwing ===== -/
section VXH
/-! vx_backW, vx_callVX, vx_callSX, vx_callVW, vx_runVW, vx_runVX, vx_runSX, vx_ofWH follow the same proofs as their sisters above (Free/Laws.lean, Shelf42/LK1.lean); vx_outP calls Shelf42/NT130.lean (outThrough). -/
section
variable {l : Launch} {R : Room} {p : Program} {e : Env} {below : List Frame} {s : State} {sargs : Array Value} {y : MethodName} {len W9 : Nat}
theorem vx_backW {ws : List Cond} {rm : Room} {Pc : Array Value → State → Prop} {Qc : Array Value → State → Outcome → State → Prop} {XC : String → State → State → Prop} {mc ms : Nat} {free : Addr → Prop} {bytes : ByteArray} {maxL : Nat} {ret : Option FieldType} {hh : List (Nat × Nat × Nat × Nat)}
    (hM : vx_Met l y ws rm Pc Qc XC mc ms free) (hblind : FrameBlind Pc) (hrc : rm.cells = mc) (hrs : rm.slots = ms)
    (hframes : rm.frames + 1 ≤ R.frames) (hlocals : W9 + (maxL + 11) + rm.locals ≤ R.locals)
    (hws : ∀ w ∈ ws, ∀ a' U, s.WarmedH U.vm → w.before a' U = true) (hcode : Cond.codeWith y bytes maxL ret hh ∈ ws) (hinit : ∀ a' U, s.WarmedH U.vm → (Cond.initialized y.cls).before a' U = true) :
    vx_Back l R p e below s sargs y len W9 (PreOf R mc ms Pc) (PostOf Qc mc ms free) (vx_Post XC mc ms free) := by
  intro m meth c A g ig mk a X hg hsize hdg hW hn hp
  have h1 : (headSpec ws rm).pre.before a A.U = true := atoms_intro fun w hw => hws w hw _ _ X.warmed
  have h2 : (Cond.codeWith y bytes maxL ret hh).before a A.U = true := hws _ hcode _ _ X.warmed
  have h3 : (Cond.initialized y.cls).before a A.U = true := hinit _ _ X.warmed
  have h4 : A.cells + (headSpec ws rm).room.cells ≤ R.cells := by rw [show (headSpec ws rm).room.cells = mc from hrc]; exact hp.1
  have h5 : A.slots + (headSpec ws rm).room.slots ≤ R.slots := by rw [show (headSpec ws rm).room.slots = ms from hrs]; exact hp.2.1
  have hPc : Pc a (A.U.calling g mk a) := hblind _ _ _ _ hp.2.2
  obtain ⟨U, Ls, c0, s0⟩ := A
  dsimp only [Pt.U, Pt.locs, Pt.cells, Pt.slots] at h1 h2 h3 h4 h5 X hn hPc ⊢
  obtain ⟨m9, methY, cY, hn9, hmY, hcY, -, hlY, -⟩ := Cond.codeWith_spec h2
  cases Option.some.inj (hn9.symm.trans hn)
  obtain ⟨kY, hkY, -⟩ := className_of_methodNamed hn
  have hinitY : kY.init = .initialized := Cond.initialized_spec (findClass_of_methodNamed hn) hkY h3
  have h : At U g.method c below := by rw [hg]; exact X.here
  have hlocals9 : W9 + (maxL + 11) + (headSpec ws rm).room.locals ≤ R.locals := hlocals
  have happ : (headSpec ws rm).appliesLoose y e.platform (U.calling g mk a) = true :=
    Spec.appliesLoose_calling (g := g) h hdg hn hkY hinitY
      (X.room_calling (g := g) (R' := (headSpec ws rm).room) hsize hmY hcY hframes (by rw [hlY]; omega) h4 h5) h1
  obtain ⟨mid, hmid⟩ := h.above
  have hfr : (U.setTop g).frames = (.java g :: mid) ++ below := by rw [State.frames_setTop' g h.top, hmid]; rfl
  obtain ⟨o, s₂, hsteps, -, hend, hq⟩ := Steps.callFree hM p X.admits X.cas X.clock (acts := []) hfr happ hPc trivial
  have hq' : vx_Q Qc XC mc ms free a (U.calling g mk a) o s₂ := hq
  rw [State.frames_setTop' g h.top] at hend
  obtain ⟨g₀, hg0⟩ := Option.isSome_iff_exists.mp h.top
  obtain ⟨r, hr⟩ := State.topJava?_eq_some.mp hg0
  have hr' : (({ U with heap := s₂.heap, slotsUsed := s₂.slotsUsed } : State).setVm s₂.vm).frames = .java g₀ :: r := hr
  rcases hq' with ⟨hqc, L, hfe, hL⟩ | ⟨q, rfl, E, ce, L, hx, hce, hcv, hcl, hW₂, hsm, hL⟩
  · obtain ⟨⟨v, rfl⟩, hW₂, e2, q2, q3, q4, q5, q6⟩ := id hfe
    have e3 : s₂ = ({ (U.calling g mk a).setFrames s₂.frames with heap := s₂.heap, slotsUsed := s₂.slotsUsed } : State).setVm s₂.vm := by
      have : s₂ = ({ s₂ with vm := (U.calling g mk a).vm } : State).setVm s₂.vm := rfl
      rw [e2] at this
      exact this
    obtain ⟨c₂, i₂, len₂, hc₂, hd₂, hf₂⟩ := hend
    have hW' : U.WarmedH s₂.vm := hW₂
    have hcc : c₂ = c := by
      have h1 : s₂.code? g.method = U.code? g.method := by
        rw [State.code?_eq, State.code?_eq, hW'.alike.method?]
      exact Option.some.inj (hc₂.symm.trans (h1.trans h.code))
    subst hcc
    have hlen : len₂ = len := by rw [hdg] at hd₂; cases hd₂; rfl
    subst hlen
    have hs₂ : s₂ = (({ U with heap := s₂.heap, slotsUsed := s₂.slotsUsed } : State).setVm s₂.vm).setTop { g with pc := g.pc + len₂, stack := v.toList ++ g.stack } := by
      refine e3.trans ?_
      rw [hf₂, State.calling_eq h.top, State.setFrames_setFrames, State.setTop_of_frames _ hr', hr]
      rfl
    have hsame : U.sameButNew ({ U with heap := s₂.heap, slotsUsed := s₂.slotsUsed } : State) L mc ms := by
      refine ⟨?_, q2, q3, q4, q5, q6⟩
      obtain ⟨t, ht, -⟩ := State.frames_cons hr
      show ({ U with heap := s₂.heap, slotsUsed := s₂.slotsUsed } : State) = { U.setFrames U.frames with heap := s₂.heap, slotsUsed := s₂.slotsUsed }
      rw [State.setFrames_self ht]
    subst hg
    refine Or.inl ⟨v, ⟨(({ U with heap := s₂.heap, slotsUsed := s₂.slotsUsed } : State).setVm s₂.vm), Ls ++ L, c0 + mc, s0 + ms⟩,
      ⟨X.admits, X.cas, X.clock, X.frames, X.room, X.hears, X.method, X.code, (X.here.setHeapUsed s₂.heap s₂.slotsUsed).setVm hW'.alike, X.tail, State.WarmedH.trans X.warmed hW', X.limits, X.bytes, X.same.trans (hsame.setVm s.vm)⟩,
      ⟨g, mk, s₂, L, rfl, rfl, hqc, rfl, hL, rfl, rfl⟩, ?_⟩
    show Steps p.tables e below _ ((({ U with heap := s₂.heap, slotsUsed := s₂.slotsUsed } : State).setVm s₂.vm).setTop { g with pc := g.pc + len₂, stack := v.toList ++ g.stack })
    rw [← hs₂]
    exact hsteps
  · obtain ⟨e2, q2, q3, q4, q5, q6⟩ := id hsm
    have e3 : s₂ = ({ (U.calling g mk a).setFrames s₂.frames with heap := s₂.heap, slotsUsed := s₂.slotsUsed } : State).setVm s₂.vm := by
      have : s₂ = ({ s₂ with vm := (U.calling g mk a).vm } : State).setVm s₂.vm := rfl
      rw [e2] at this
      exact this
    have hf₂ : s₂.frames = .throwing q :: .java g :: U.frames.tail := hend
    have hW' : U.WarmedH s₂.vm := hW₂
    have hs₂ : s₂ = ((({ U with heap := s₂.heap, slotsUsed := s₂.slotsUsed } : State).setVm s₂.vm).setTop g).pushFrame (.throwing q) := by
      refine e3.trans ?_
      rw [hf₂, State.calling_eq h.top, State.setFrames_setFrames, State.pushFrame, State.frames_setTop _ hr', State.setTop_of_frames _ hr', State.setFrames_setFrames, hr]
      rfl
    have hsame : U.sameButNew ({ U with heap := s₂.heap, slotsUsed := s₂.slotsUsed } : State) L mc ms := by
      refine ⟨?_, q2, q3, q4, q5, q6⟩
      obtain ⟨t, ht, -⟩ := State.frames_cons hr
      show ({ U with heap := s₂.heap, slotsUsed := s₂.slotsUsed } : State) = { U.setFrames U.frames with heap := s₂.heap, slotsUsed := s₂.slotsUsed }
      rw [State.setFrames_self ht]
    subst hg
    refine Or.inr ⟨q, ⟨(({ U with heap := s₂.heap, slotsUsed := s₂.slotsUsed } : State).setVm s₂.vm), Ls ++ L, c0 + mc, s0 + ms⟩,
      ⟨X.admits, X.cas, X.clock, X.frames, X.room, X.hears, X.method, X.code, (X.here.setHeapUsed s₂.heap s₂.slotsUsed).setVm hW'.alike, X.tail, State.WarmedH.trans X.warmed hW', X.limits, X.bytes, X.same.trans (hsame.setVm s.vm)⟩,
      ⟨g, mk, s₂, L, E, ce, rfl, rfl, hx, hce, hcv, hcl, rfl, hL, rfl, rfl⟩, ?_⟩
    show Steps p.tables e below _ (((({ U with heap := s₂.heap, slotsUsed := s₂.slotsUsed } : State).setVm s₂.vm).setTop g).pushFrame (.throwing q))
    rw [← hs₂]
    exact hsteps
end
variable {p : Program} {l : Launch} {e : Env} {R : Room} {s : State} {m : MethodId} {args : Array Value} {below : List Frame} {meth : Method} {c : Code} {T : State} {H : Heap} {locs : List Loc} {cells slots : Nat}
theorem vx_callVX (X : Stand p l e R s m args below meth c T locs cells slots) (hexec : p.tables.exec = Jvm.exec) {own C : String} {index : Nat} {y : MethodName} {bytes : ByteArray} {maxL : Nat} {ret : Option FieldType} {hh : List (Nat × Nat × Nat × Nat)}
    (hown : s.vm.findClass own = some m.cls) (hlink : (Cond.methodLink own index y).before args s = true) (hinst : (Cond.instanceMethod y).before args s = true) (hsel : (Cond.selects C y y).before args s = true)
    (hcode : (Cond.codeWith y bytes maxL ret hh).before args s = true) (hy : y.cls ≠ "java/lang/invoke/MethodHandle" ∧ y.cls ≠ "java/lang/invoke/VarHandle")
    {W9 : Nat} {Pre : Pt → Array Value → Prop} {Post : Pt → Array Value → Option Value → Pt → Prop} {PostX : Pt → Array Value → Addr → Pt → Prop} (hK : vx_Back l R p e below s args y 3 W9 Pre Post PostX)
    {b : Addr} {cellB : Cell} (hcell : T.heap[b]? = some cellB) (hobj : cellB.vm.isStatics = false) (hcls : s.vm.findClass C = some cellB.cls)
    {g : JFrame} (hg : g.method = m) (hsize : g.locals.size = c.maxLocals) {argsL rest : List Value} (hlen : ∀ sig, parseMethodDescriptor y.desc = some sig → argsL.length = sig.parameters.length)
    (hstack : g.stack = argsL.reverse ++ .ref b :: rest) (hW : 2 * g.monitorRoom + (rest.map fun v => v.category).sum ≤ W9) (hdg : decode c.code g.pc = .ok (.invokevirtual index, 3))
    (hpre : ∀ vm₁, s.WarmedH vm₁ → Pre ⟨T.setVm vm₁, locs, cells, slots⟩ (Value.ref b :: argsL).toArray) :
    (∃ (v : Option Value) (vm₁ : Vm) (B : Pt), s.WarmedH vm₁ ∧ Stand p l e R s m args below meth c B.U B.locs B.cells B.slots ∧ Post ⟨T.setVm vm₁, locs, cells, slots⟩ (Value.ref b :: argsL).toArray v B ∧
      ∀ target, Steps p.tables e below (B.U.setTop { g with pc := g.pc + 3, stack := v.toList ++ rest }) target → Steps p.tables e below (T.setTop g) target) ∨
    (∃ (q : Addr) (vm₁ : Vm) (B : Pt), s.WarmedH vm₁ ∧ Stand p l e R s m args below meth c B.U B.locs B.cells B.slots ∧ PostX ⟨T.setVm vm₁, locs, cells, slots⟩ (Value.ref b :: argsL).toArray q B ∧
      Steps p.tables e below (T.setTop g) ((B.U.setTop { g with stack := rest }).pushFrame (.throwing q))) := by
  obtain ⟨mk, methM, hnamed, hmethM, hstM, habM⟩ := Cond.instanceMethod_spec hinst
  obtain ⟨m8, methM', cM, hn8, hmethM', -, -, -, -, -, -, hsigM⟩ := Cond.codeWith_spec hcode
  cases Option.some.inj (hn8.symm.trans hnamed)
  cases hmethM.symm.trans hmethM'
  obtain ⟨c2, r2, m2, q1, q2, q3, q4, kP, hkP, hkPi⟩ := Cond.selects_spec hsel
  cases hcls.symm.trans q1
  cases (State.methodFound?_of_named hnamed hy).symm.trans q2
  cases hnamed.symm.trans q3
  have hselP : selectMethod e.platform s.vm cellB.cls mk = .method mk := by rw [Launch.admits_selectMethod X.admits]; exact q4
  obtain ⟨vm₁, X₁, hstep₁⟩ := X.invokevirtual hexec hown hlink hnamed hmethM hstM hkP hkPi hy (a := b) (cell := cellB) hcell
    (fun z h => by rw [h] at hobj; cases hobj) hselP hmethM habM hkP hkPi (g := g) hg (argsL := argsL) (rest := rest) (hlen _ hsigM) hstack hdg
  rcases hK m meth c ⟨T.setVm vm₁, locs, cells, slots⟩ { g with stack := rest } (.invokevirtual index) mk (Value.ref b :: argsL).toArray X₁ hg hsize hdg hW (X₁.named hnamed) (hpre vm₁ X₁.warmed) with ⟨v, B, X', hpost, hsteps⟩ | ⟨q, B, X', hpost, hsteps⟩
  · exact Or.inl ⟨v, vm₁, B, X₁.warmed, X', hpost, fun target h => hstep₁ _ fun acts => by rw [doInvoke_state]; exact hsteps.trans h⟩
  · exact Or.inr ⟨q, vm₁, B, X₁.warmed, X', hpost, hstep₁ _ fun acts => by rw [doInvoke_state]; exact hsteps⟩
theorem vx_callSX (X : Stand p l e R s m args below meth c T locs cells slots) (hexec : p.tables.exec = Jvm.exec) {own : String} {index : Nat} {y : MethodName} {bytes : ByteArray} {maxL : Nat} {ret : Option FieldType} {hh : List (Nat × Nat × Nat × Nat)}
    (hown : s.vm.findClass own = some m.cls) (hlink : (Cond.methodLink own index y).before args s = true) (hstat : (Cond.static y).before args s = true) (hinit : (Cond.initialized y.cls).before args s = true)
    (hcode : (Cond.codeWith y bytes maxL ret hh).before args s = true) (hy : y.cls ≠ "java/lang/invoke/MethodHandle" ∧ y.cls ≠ "java/lang/invoke/VarHandle")
    {W9 : Nat} {Pre : Pt → Array Value → Prop} {Post : Pt → Array Value → Option Value → Pt → Prop} {PostX : Pt → Array Value → Addr → Pt → Prop} (hK : vx_Back l R p e below s args y 3 W9 Pre Post PostX)
    {g : JFrame} (hg : g.method = m) (hsize : g.locals.size = c.maxLocals) {argsL rest : List Value} (hlen : ∀ sig, parseMethodDescriptor y.desc = some sig → argsL.length = sig.parameters.length)
    (hstack : g.stack = argsL.reverse ++ rest) (hW : 2 * g.monitorRoom + (rest.map fun v => v.category).sum ≤ W9) (hdg : decode c.code g.pc = .ok (.invokestatic index, 3))
    (hpre : ∀ vm₁, s.WarmedH vm₁ → Pre ⟨T.setVm vm₁, locs, cells, slots⟩ argsL.toArray) :
    (∃ (v : Option Value) (vm₁ : Vm) (B : Pt), s.WarmedH vm₁ ∧ Stand p l e R s m args below meth c B.U B.locs B.cells B.slots ∧ Post ⟨T.setVm vm₁, locs, cells, slots⟩ argsL.toArray v B ∧
      ∀ target, Steps p.tables e below (B.U.setTop { g with pc := g.pc + 3, stack := v.toList ++ rest }) target → Steps p.tables e below (T.setTop g) target) ∨
    (∃ (q : Addr) (vm₁ : Vm) (B : Pt), s.WarmedH vm₁ ∧ Stand p l e R s m args below meth c B.U B.locs B.cells B.slots ∧ PostX ⟨T.setVm vm₁, locs, cells, slots⟩ argsL.toArray q B ∧
      Steps p.tables e below (T.setTop g) ((B.U.setTop { g with stack := rest }).pushFrame (.throwing q))) := by
  obtain ⟨mk, methM, cM, hnamed, hmethM, -, -, -, -, -, -, hsigM⟩ := Cond.codeWith_spec hcode
  have hstatic : methM.isStatic = true := Cond.static_spec hnamed hmethM hstat
  obtain ⟨kP, hkP, -⟩ := className_of_methodNamed hnamed
  have hinitP : kP.init = .initialized := Cond.initialized_spec (findClass_of_methodNamed hnamed) hkP hinit
  obtain ⟨vm₁, X₁, hstep₁⟩ := X.invokestatic hexec hown hlink hnamed hmethM hstatic hkP hinitP hy (g := g) hg (argsL := argsL) (rest := rest) (hlen _ hsigM) hstack hdg
  rcases hK m meth c ⟨T.setVm vm₁, locs, cells, slots⟩ { g with stack := rest } (.invokestatic index) mk argsL.toArray X₁ hg hsize hdg hW (X₁.named hnamed) (hpre vm₁ X₁.warmed) with ⟨v, B, X', hpost, hsteps⟩ | ⟨q, B, X', hpost, hsteps⟩
  · exact Or.inl ⟨v, vm₁, B, X₁.warmed, X', hpost, fun target h => hstep₁ _ fun acts => by rw [doInvoke_state]; exact hsteps.trans h⟩
  · exact Or.inr ⟨q, vm₁, B, X₁.warmed, X', hpost, hstep₁ _ fun acts => by rw [doInvoke_state]; exact hsteps⟩
theorem vx_callVW (X : Stand p l e R s m args below meth c T locs cells slots) (hexec : p.tables.exec = Jvm.exec) {own C : String} {index : Nat} {y : MethodName} {bytes : ByteArray} {maxL : Nat} {ret : Option FieldType} {hh : List (Nat × Nat × Nat × Nat)}
    (hown : s.vm.findClass own = some m.cls) (hlink : (Cond.methodLink own index y).before args s = true) (hinst : (Cond.instanceMethod y).before args s = true) (hsel : (Cond.selects C y y).before args s = true)
    (hcode : (Cond.codeWith y bytes maxL ret hh).before args s = true) (hy : y.cls ≠ "java/lang/invoke/MethodHandle" ∧ y.cls ≠ "java/lang/invoke/VarHandle")
    {W9 : Nat} {Pre : Pt → Array Value → Prop} {Post : Pt → Array Value → Option Value → Pt → Prop} (hK : Back l R p e below s args y 3 W9 Pre Post)
    {b : Addr} {cellB : Cell} (hcell : T.heap[b]? = some cellB) (hobj : cellB.vm.isStatics = false) (hcls : s.vm.findClass C = some cellB.cls)
    {g : JFrame} (hg : g.method = m) (hsize : g.locals.size = c.maxLocals) {argsL rest : List Value} (hlen : ∀ sig, parseMethodDescriptor y.desc = some sig → argsL.length = sig.parameters.length)
    (hstack : g.stack = argsL.reverse ++ .ref b :: rest) (hW : 2 * g.monitorRoom + (rest.map fun v => v.category).sum ≤ W9) (hdg : decode c.code g.pc = .ok (.invokevirtual index, 3))
    (hpre : ∀ vm₁, s.WarmedH vm₁ → Pre ⟨T.setVm vm₁, locs, cells, slots⟩ (Value.ref b :: argsL).toArray) :
    ∃ (v : Option Value) (vm₁ : Vm) (B : Pt), s.WarmedH vm₁ ∧ Stand p l e R s m args below meth c B.U B.locs B.cells B.slots ∧ Post ⟨T.setVm vm₁, locs, cells, slots⟩ (Value.ref b :: argsL).toArray v B ∧
      ∀ target, Steps p.tables e below (B.U.setTop { g with pc := g.pc + 3, stack := v.toList ++ rest }) target → Steps p.tables e below (T.setTop g) target := by
  obtain ⟨mk, methM, hnamed, hmethM, hstM, habM⟩ := Cond.instanceMethod_spec hinst
  obtain ⟨m8, methM', cM, hn8, hmethM', -, -, -, -, -, -, hsigM⟩ := Cond.codeWith_spec hcode
  cases Option.some.inj (hn8.symm.trans hnamed)
  cases hmethM.symm.trans hmethM'
  obtain ⟨c2, r2, m2, q1, q2, q3, q4, kP, hkP, hkPi⟩ := Cond.selects_spec hsel
  cases hcls.symm.trans q1
  cases (State.methodFound?_of_named hnamed hy).symm.trans q2
  cases hnamed.symm.trans q3
  have hselP : selectMethod e.platform s.vm cellB.cls mk = .method mk := by rw [Launch.admits_selectMethod X.admits]; exact q4
  obtain ⟨vm₁, X₁, hstep₁⟩ := X.invokevirtual hexec hown hlink hnamed hmethM hstM hkP hkPi hy (a := b) (cell := cellB) hcell
    (fun z h => by rw [h] at hobj; cases hobj) hselP hmethM habM hkP hkPi (g := g) hg (argsL := argsL) (rest := rest) (hlen _ hsigM) hstack hdg
  obtain ⟨v, B, X', hpost, hsteps⟩ := hK m meth c ⟨T.setVm vm₁, locs, cells, slots⟩ { g with stack := rest } (.invokevirtual index) mk (Value.ref b :: argsL).toArray X₁ hg hsize hdg hW (X₁.named hnamed) (hpre vm₁ X₁.warmed)
  exact ⟨v, vm₁, B, X₁.warmed, X', hpost, fun target h => hstep₁ _ fun acts => by rw [doInvoke_state]; exact hsteps.trans h⟩
abbrev vx_CVW (R : Room) (s : State) (args : Array Value) (own C : String) (index : Nat) (y : MethodName) (bytes : ByteArray) (maxL : Nat) (ret : Option FieldType) (hh : List (Nat × Nat × Nat × Nat)) (ws : List Cond) (rm : Room) (mc ms n : Nat) : Prop :=
  (rm.cells = mc ∧ rm.slots = ms ∧ rm.frames + 1 ≤ R.frames ∧ 8 + (maxL + 11) + rm.locals ≤ R.locals ∧ (∀ w ∈ ws, ∀ (a' : Array Value) (U : State), s.WarmedH U.vm → w.before a' U = true) ∧ Cond.codeWith y bytes maxL ret hh ∈ ws) ∧
  (Cond.codeWith y bytes maxL ret hh).before args s = true ∧ (Cond.initialized y.cls).before args s = true ∧ (y.cls ≠ "java/lang/invoke/MethodHandle" ∧ y.cls ≠ "java/lang/invoke/VarHandle") ∧
  (∀ sig, parseMethodDescriptor y.desc = some sig → n = sig.parameters.length) ∧ (Cond.methodLink own index y).before args s = true ∧ (Cond.instanceMethod y).before args s = true ∧ (Cond.selects C y y).before args s = true
theorem vx_cwVW {own C : String} {index maxL mc ms : Nat} {y : MethodName} {bytes : ByteArray} {ret : Option FieldType} {hh : List (Nat × Nat × Nat × Nat)} {Ts ws ws' : List Cond} {rm : Room} (n : Nat) (ht : ∀ w ∈ Ts, w.before args s = true) (hT : GoodIn Ts (wsV own index C y ws)) (hw : ws = Cond.codeWith y bytes maxL ret hh :: ws') (hrc : rm.cells = mc) (hrs : rm.slots = ms)
    (hd : y.cls = C ∧ y.cls ≠ "java/lang/invoke/MethodHandle" ∧ y.cls ≠ "java/lang/invoke/VarHandle" ∧ (parseMethodDescriptor y.desc).map (fun d => d.parameters.length) = some n) (hR : rm.frames + 1 ≤ R.frames ∧ 8 + (maxL + 11) + rm.locals ≤ R.locals) :
    vx_CVW R s args own C index y bytes maxL ret hh ws rm mc ms n := by
  obtain ⟨hC, hd⟩ := hd
  subst hC
  have ok : ∀ w ∈ wsV own index y.cls y ws, w.before args s = true := fun w h => ht w (hT w h).1
  have hG : GoodIn Ts ws := fun w h => hT w (by unfold wsV; exact List.mem_append_right _ h)
  have hc : Cond.codeWith y bytes maxL ret hh ∈ ws := by rw [hw]; exact List.mem_cons_self
  refine ⟨⟨hrc, hrs, hR.1, hR.2, pay_in ht hG, hc⟩, ht _ (hG _ hc).1, ok _ (by simp [wsV]), ⟨hd.1, hd.2.1⟩, fun sig h => ?_, ok _ (by simp [wsV]), ok _ (by simp [wsV]), ok _ (by simp [wsV])⟩
  have h2 := hd.2.2
  rw [h] at h2
  exact (Option.some.inj h2).symm
theorem vx_runVW {y : MethodName} {bytes cc : ByteArray} {maxL nL mc ms n index : Nat} {ret : Option FieldType} {hh : List (Nat × Nat × Nat × Nat)} {ws : List Cond} {rm : Room} {Pc : Array Value → State → Prop} {Qc : Array Value → State → Outcome → State → Prop} {free : Addr → Prop} {Ts : List Cond} {own C : String} {b : Addr} {As rest : List Value} {g : JFrame}
    (S : CallFix p m c cc nL s args Ts own) (hM : Met l y ws rm Pc Qc mc ms free) (cw : vx_CVW R s args own C index y bytes maxL ret hh ws rm mc ms n) (hp : PreV s H C b Pc As)
    (hg : g.method = m) (hn : As.length = n) (hsize : g.locals.size = nL) (hstack : g.stack = As.reverse ++ .ref b :: rest) (hW : 2 * g.monitorRoom + (rest.map fun v => v.category).sum ≤ 8) (hdg : decode cc g.pc = .ok (.invokevirtual index, 3)) (hf : cells + mc ≤ R.cells ∧ slots + ms ≤ R.slots) :
    va_Run p l e R s m args below meth c H locs cells slots mc ms g rest (Qc (Value.ref b :: As).toArray) free := by
  obtain ⟨⟨hrc, hrs, hfr, hlo, hws, hcw⟩, hcode, hini, hy, hlen, hl, hin, hse⟩ := cw
  have hK : Back l R p e below s args y 3 8 (PreOf R mc ms Pc) (PostOf Qc mc ms free) := va_backW (hh := hh) (bytes := bytes) (maxL := maxL) (ret := ret) hM hp.1 hrc hrs hfr hlo hws hcw (fun a' U hW => word_at hW (Or.inl (by first | rfl | simp [Cond.onTables, Cond.keeps, Cond.steady])) hini)
  obtain ⟨hx, hb, hml, ho, -⟩ := S
  obtain ⟨-, ⟨cellB, hcB, hoB, hclB⟩, hPc⟩ := hp
  intro T hT X
  obtain ⟨v, vm₁, ⟨U', l2, c2, s2⟩, hW₁, X', ⟨g', mk, t, L, e1, e2, hq, h1, hL, h2, h3⟩, st⟩ := vx_callVW X hx (C := C) (hh := hh) (bytes := bytes) (maxL := maxL) (ret := ret) ho hl hin hse hcode hy hK (by rw [hT]; exact hcB) hoB hclB hg (hsize.trans hml.symm) (argsL := As) (rest := rest) (fun sig h => hn.trans (hlen sig h)) hstack hW (by rw [hb]; exact hdg)
    (fun vm₁ hW₁ => ⟨hf.1, hf.2, hPc (T.setVm vm₁) hT hW₁⟩)
  dsimp only [Pt.U, Pt.locs, Pt.cells, Pt.slots] at X' e1 e2 h1 h2 h3 st
  subst h1; subst h2; subst h3
  exact ⟨v, (T.setVm vm₁).calling g' mk (Value.ref b :: As).toArray, t, U', L, hT, X', hL, e1, e2, hq, st⟩
section
variable {y : MethodName} {bytes cc : ByteArray} {maxL nL mc ms n index : Nat} {ret : Option FieldType} {ws : List Cond} {rm : Room} {Pc : Array Value → State → Prop} {Qc : Array Value → State → Outcome → State → Prop} {XC : String → State → State → Prop} {free : Addr → Prop} {Ts : List Cond} {own C : String} {b : Addr} {As rest : List Value} {g : JFrame}
theorem vx_runVX {hh : List (Nat × Nat × Nat × Nat)} (S : CallFix p m c cc nL s args Ts own) (hM : vx_Met l y ws rm Pc Qc XC mc ms free) (cw : vx_CVW R s args own C index y bytes maxL ret hh ws rm mc ms n) (hp : PreV s H C b Pc As)
    (hg : g.method = m) (hn : As.length = n) (hsize : g.locals.size = nL) (hstack : g.stack = As.reverse ++ .ref b :: rest) (hW : 2 * g.monitorRoom + (rest.map fun v => v.category).sum ≤ 8) (hdg : decode cc g.pc = .ok (.invokevirtual index, 3)) (hf : cells + mc ≤ R.cells ∧ slots + ms ≤ R.slots) :
    vx_Run p l e R s m args below meth c H locs cells slots mc ms g rest (Qc (Value.ref b :: As).toArray) XC free := by
  obtain ⟨⟨hrc, hrs, hfr, hlo, hws, hcw⟩, hcode, hini, hy, hlen, hl, hin, hse⟩ := cw
  have hK : vx_Back l R p e below s args y 3 8 (PreOf R mc ms Pc) (PostOf Qc mc ms free) (vx_Post XC mc ms free) := vx_backW (hh := hh) (bytes := bytes) (maxL := maxL) (ret := ret) hM hp.1 hrc hrs hfr hlo hws hcw (fun a' U hW => word_at hW (Or.inl (by first | rfl | simp [Cond.onTables, Cond.keeps, Cond.steady])) hini)
  obtain ⟨hx, hb, hml, ho, -⟩ := S
  obtain ⟨-, ⟨cellB, hcB, hoB, hclB⟩, hPc⟩ := hp
  intro T hT X
  rcases vx_callVX X hx (C := C) (hh := hh) (bytes := bytes) (maxL := maxL) (ret := ret) ho hl hin hse hcode hy hK (by rw [hT]; exact hcB) hoB hclB hg (hsize.trans hml.symm) (argsL := As) (rest := rest) (fun sig h => hn.trans (hlen sig h)) hstack hW (by rw [hb]; exact hdg)
    (fun vm₁ hW₁ => ⟨hf.1, hf.2, hPc (T.setVm vm₁) hT hW₁⟩) with ⟨v, vm₁, ⟨U', l2, c2, s2⟩, hW₁, X', ⟨g', mk, t, L, e1, e2, hq, h1, hL, h2, h3⟩, st⟩ | ⟨q, vm₁, ⟨U', l2, c2, s2⟩, hW₁, X', ⟨g', mk, t, L, E, ce, e1, e2, hq, hce, hcv, hcl, h1, hL, h2, h3⟩, st⟩
  · dsimp only [Pt.U, Pt.locs, Pt.cells, Pt.slots] at X' e1 e2 h1 h2 h3 st
    subst h1; subst h2; subst h3
    exact Or.inl ⟨v, (T.setVm vm₁).calling g' mk (Value.ref b :: As).toArray, t, U', L, hT, X', hL, e1, e2, hq, st⟩
  · dsimp only [Pt.U, Pt.locs, Pt.cells, Pt.slots] at X' e1 e2 h1 h2 h3 st hcl
    subst h1; subst h2; subst h3
    exact Or.inr ⟨q, (T.setVm vm₁).calling g' mk (Value.ref b :: As).toArray, t, U', L, E, ce, hT, X', hL, e1, e2, hq, hce, hcv, vx_cls hW₁ hcl, st⟩
theorem vx_runSX {hh : List (Nat × Nat × Nat × Nat)} (S : CallFix p m c cc nL s args Ts own) (hM : vx_Met l y ws rm Pc Qc XC mc ms free) (cw : vx_CSW R s args own index y bytes maxL ret hh ws rm mc ms n) (hp : PreS s H Pc As)
    (hg : g.method = m) (hn : As.length = n) (hsize : g.locals.size = nL) (hstack : g.stack = As.reverse ++ rest) (hW : 2 * g.monitorRoom + (rest.map fun v => v.category).sum ≤ 8) (hdg : decode cc g.pc = .ok (.invokestatic index, 3)) (hf : cells + mc ≤ R.cells ∧ slots + ms ≤ R.slots) :
    vx_Run p l e R s m args below meth c H locs cells slots mc ms g rest (Qc As.toArray) XC free := by
  obtain ⟨⟨hrc, hrs, hfr, hlo, hws, hcw⟩, hcode, hini, hy, hlen, hl, hstt⟩ := cw
  have hK : vx_Back l R p e below s args y 3 8 (PreOf R mc ms Pc) (PostOf Qc mc ms free) (vx_Post XC mc ms free) := vx_backW (hh := hh) (bytes := bytes) (maxL := maxL) (ret := ret) hM hp.1 hrc hrs hfr hlo hws hcw (fun a' U hW => word_at hW (Or.inl (by first | rfl | simp [Cond.onTables, Cond.keeps, Cond.steady])) hini)
  obtain ⟨hx, hb, hml, ho, -⟩ := S
  intro T hT X
  rcases vx_callSX X hx (hh := hh) (bytes := bytes) (maxL := maxL) (ret := ret) ho hl hstt hini hcode hy hK hg (hsize.trans hml.symm) (argsL := As) (rest := rest) (fun sig h => hn.trans (hlen sig h)) hstack hW (by rw [hb]; exact hdg)
    (fun vm₁ hW₁ => ⟨hf.1, hf.2, hp.2 (T.setVm vm₁) hT hW₁⟩) with ⟨v, vm₁, ⟨U', l2, c2, s2⟩, hW₁, X', ⟨g', mk, t, L, e1, e2, hq, h1, hL, h2, h3⟩, st⟩ | ⟨q, vm₁, ⟨U', l2, c2, s2⟩, hW₁, X', ⟨g', mk, t, L, E, ce, e1, e2, hq, hce, hcv, hcl, h1, hL, h2, h3⟩, st⟩
  · dsimp only [Pt.U, Pt.locs, Pt.cells, Pt.slots] at X' e1 e2 h1 h2 h3 st
    subst h1; subst h2; subst h3
    exact Or.inl ⟨v, (T.setVm vm₁).calling g' mk As.toArray, t, U', L, hT, X', hL, e1, e2, hq, st⟩
  · dsimp only [Pt.U, Pt.locs, Pt.cells, Pt.slots] at X' e1 e2 h1 h2 h3 st hcl
    subst h1; subst h2; subst h3
    exact Or.inr ⟨q, (T.setVm vm₁).calling g' mk As.toArray, t, U', L, E, ce, hT, X', hL, e1, e2, hq, hce, hcv, vx_cls hW₁ hcl, st⟩
end
end VXH
theorem vx_ofWH {l : Launch} {y : MethodName} {ws ws' : List Cond} {rm : Room} {Pc : Array Value → State → Prop} {Qc : Array Value → State → Outcome → State → Prop} {XC : String → State → State → Prop} {mc ms : Nat} {free : Addr → Prop} {cc : ByteArray} {maxL : Nat} {ret : Option FieldType} {hh : List (Nat × Nat × Nat × Nat)}
    (hy : plainName y.cls = true) (hw : ws = Cond.codeWith y cc maxL ret hh :: ws')
    (body : ∀ p e s m args below meth c s₁, BodyLoose p l y (headSpec ws rm) cc maxL ret e s m args below meth c s₁ → c.maxLocals = maxL → Pc args s →
      W p l e (headSpec ws rm).room s m args below meth c s.heap [] 0 0 (vx_MQ below Qc XC args s mc ms free) (entryFrame m args maxL)) : vx_Met l y ws rm Pc Qc XC mc ms free := by
  refine MetFree.of_bodyS (code := cc) (maxLocals := maxL) (ret := ret) hy ?_ ?_
  · intro args s m h hn
    obtain ⟨m9, meth, c, hn9, h1, h2, h3, h4, -, h5, h6, -⟩ := Cond.codeWith_spec (atoms_spec (ws := ws) h _ (by rw [hw]; exact List.mem_cons_self))
    cases hn.symm.trans hn9
    exact ⟨meth, c, h1, h2, h3, h4, h5, h6⟩
  · intro p e s m args below meth c s₁ B hml hP _
    have hh0 : s₁.heap = s.heap := by rw [B.state]; rfl
    obtain ⟨t, a1, o, b1, b2, b3⟩ := body p e s m args below meth c s₁ B hml hP s₁ hh0 (Stand.of_body B)
    exact ⟨t, o, a1, b1, b2, b3⟩
/-! ===== END ===== -/
end
section
/-! A world as a function of the address: the kit's lists behind it, by membership. -/
def Hd (D : va_G) (cl : List vw_C) (A : Nat → Prop) (w : Nat → Option va_E) (H : Heap) : Prop :=
  ∃ ws : va_W, va_P D cl ws H ∧ va_D A ws ∧ ∀ (a : Nat) (e : va_E), w a = some e ↔ (a, e) ∈ ws
theorem hd_ix {w : Nat → Option va_E} {ws : va_W} (h : ∀ (a : Nat) (e : va_E), w a = some e ↔ (a, e) ∈ ws) {a : Nat} {e : va_E} (he : w a = some e) : ∃ k : Nat, ws[k]? = some (a, e) :=
  List.getElem?_of_mem ((h a e).mp he)
theorem hd_set {A : Nat → Prop} {w : Nat → Option va_E} {ws : va_W} (h : ∀ (a : Nat) (e : va_E), w a = some e ↔ (a, e) ∈ ws) (hD : va_D A ws) {a k : Nat} {e e' : va_E} (hk : ws[k]? = some (a, e)) :
    ∀ (b : Nat) (f : va_E), va_up w a (some e') b = some f ↔ (b, f) ∈ ws.set k (a, e') := by
  have hkl : k < ws.length := (List.getElem?_eq_some_iff.mp hk).1
  intro b f
  constructor
  · intro hb
    by_cases hba : b = a
    · subst hba
      rw [va_up_self] at hb
      cases hb
      exact List.mem_iff_getElem?.mpr ⟨k, by simp [List.getElem?_set, hkl]⟩
    · rw [va_up_ne _ _ hba] at hb
      obtain ⟨j, hj⟩ := hd_ix h hb
      have hjk : k ≠ j := fun q => by
        subst q
        rw [hk] at hj
        cases hj
        exact hba rfl
      exact List.mem_iff_getElem?.mpr ⟨j, by rw [List.getElem?_set_ne hjk]; exact hj⟩
  · intro hm
    obtain ⟨j, hj⟩ := List.getElem?_of_mem hm
    by_cases hjk : k = j
    · subst hjk
      rw [List.getElem?_set_self hkl] at hj
      cases hj
      exact va_up_self _ _ _
    · rw [List.getElem?_set_ne hjk] at hj
      have hba : b ≠ a := fun q => hjk (hD.1 k j _ _ hk hj q.symm)
      rw [va_up_ne _ _ hba]
      exact (h b f).mpr (List.mem_of_getElem? hj)
theorem hd_push {A : Nat → Prop} {w : Nat → Option va_E} {ws : va_W} (h : ∀ (a : Nat) (e : va_E), w a = some e ↔ (a, e) ∈ ws) {q : Nat} {e : va_E} (hD : va_D A (ws ++ [(q, e)])) :
    w q = none ∧ ∀ (b : Nat) (f : va_E), va_up w q (some e) b = some f ↔ (b, f) ∈ ws ++ [(q, e)] := by
  have hl : (ws ++ [(q, e)])[ws.length]? = some (q, e) := by simp
  have hne : ∀ (b : Nat) (f : va_E), (b, f) ∈ ws → b ≠ q := by
    intro b f hm hb
    obtain ⟨j, hj⟩ := List.getElem?_of_mem hm
    have hjl : j < ws.length := (List.getElem?_eq_some_iff.mp hj).1
    have h2 : (ws ++ [(q, e)])[j]? = some (b, f) := by rw [List.getElem?_append_left hjl]; exact hj
    have := hD.1 j ws.length _ _ h2 hl hb
    omega
  refine ⟨?_, fun b f => ?_⟩
  · cases hq : w q with
    | none => rfl
    | some f => exact absurd rfl (hne q f ((h q f).mp hq))
  · constructor
    · intro hb
      by_cases hbq : b = q
      · subst hbq
        rw [va_up_self] at hb
        cases hb
        exact List.mem_append_right _ (List.mem_singleton.mpr rfl)
      · rw [va_up_ne _ _ hbq] at hb
        exact List.mem_append_left _ ((h b f).mp hb)
    · intro hm
      rcases List.mem_append.mp hm with h1 | h1
      · rw [va_up_ne _ _ (hne b f h1)]
        exact (h b f).mpr h1
      · cases List.mem_singleton.mp h1
        exact va_up_self _ _ _
theorem Hd.lt {D : va_G} {cl : List vw_C} {A : Nat → Prop} {w : Nat → Option va_E} {H : Heap} (h : Hd D cl A w H) {a : Nat} {e : va_E} (he : w a = some e) : a < H.size := by
  obtain ⟨ws, hP, hD, hw⟩ := h
  obtain ⟨k, hk⟩ := hd_ix hw he
  exact (hP k _ hk).lt
theorem Hd.at {D : va_G} {cl : List vw_C} {A : Nat → Prop} {w : Nat → Option va_E} {H : Heap} (h : Hd D cl A w H) {a : Nat} {e : va_E} (he : w a = some e) : va_at D cl (a, e) H := by
  obtain ⟨ws, hP, hD, hw⟩ := h
  obtain ⟨k, hk⟩ := hd_ix hw he
  exact hP k _ hk
theorem Hd.inA {D : va_G} {cl : List vw_C} {A : Nat → Prop} {w : Nat → Option va_E} {H : Heap} (h : Hd D cl A w H) {a : Nat} {e : va_E} (he : w a = some e) : A a := by
  obtain ⟨ws, hP, hD, hw⟩ := h
  obtain ⟨k, hk⟩ := hd_ix hw he
  exact hD.2 k _ hk
/-- another heap that has the same cells where the world looks -/
theorem Hd.kept {D : va_G} {cl : List vw_C} {A : Nat → Prop} {w : Nat → Option va_E} {H H1 : Heap} (h : Hd D cl A w H) (hq : ∀ q : Nat, q < H.size → H1[q]? = H[q]?) : Hd D cl A w H1 := by
  obtain ⟨ws, hP, hD, hw⟩ := h
  exact ⟨ws, hP.kept (fun k q hk => hq q.1 (hP k q hk).lt), hD, hw⟩
theorem Hd.nil {D : va_G} {cl : List vw_C} {A : Nat → Prop} {H : Heap} : Hd D cl A (fun _ => none) H :=
  ⟨[], fun k q h => by simp at h, ⟨fun i j p q h => by simp at h, fun k q h => by simp at h⟩, fun a e => by simp⟩
section HDR
variable {p : Program} {l : Launch} {e : Env} {R : Room} {s : State} {m : MethodId} {args : Array Value} {below : List Frame} {meth : Method} {c : Code} {H : Heap} {locs : List Loc} {cells slots : Nat} {Q : State → Prop}
variable {cc : ByteArray} {pc : Nat} {ls : Array Slot} {rest : List Value} {D : va_G} {cl : List vw_C} {A : Nat → Prop} {a : Nat} {tys : List (ClassId × FieldType)} {w : Nat → Option va_E} {H0 : Heap}
theorem hd_recv (hK : va_K D cl tys s) (hH : Hd D cl A w H) {ci : Nat} {q : vw_C} {fs : List Value} (hc : cl[ci]? = some q) (he : w a = some (.inr (ci, fs))) : ∃ cell : Cell, H[a]? = some cell ∧ cell.vm.isStatics = false ∧ s.vm.findClass q.1 = some cell.cls := by
  obtain ⟨ws, hP, hD, hw⟩ := hH
  obtain ⟨k, hk⟩ := hd_ix hw he
  exact va_recv hK hP hc hk
theorem hd_get (hexec : p.tables.exec = Jvm.exec) (hb : c.code = cc) {own ref C : String} {T : u_T} {N ci index : Nat} {Ts : List Cond} (hts : ∀ w ∈ Ts, w.before args s = true) (hin : ∀ w ∈ u_ws C T N, w ∈ Ts) (hown : s.vm.findClass own = some m.cls) (hK : va_K D cl tys s) (hH : Hd D cl A w H) {fs : List Value} (he : w a = some (.inr (ci, fs))) (hc : cl[ci]? = some (C, T, N)) (k : Nat) (hk : k < N) (hlink : (Cond.fieldLink own index ref (T k).2.1 (T k).2.2.1).before args s = true) (hsame : ∀ x, s.fieldFound? (T k).1 (T k).2.1 (T k).2.2.1 = some x → s.fieldFound? ref (T k).2.1 (T k).2.2.1 = some x) {v : Value} (hv : fs[k]? = some v) (hdg : decode cc pc = .ok (.getfield index, 3))
    (kk : W p l e R s m args below meth c H locs cells slots Q (F0 m (pc + 3) ls (v :: rest))) : W p l e R s m args below meth c H locs cells slots Q (F0 m pc ls (.ref a :: rest)) := by
  obtain ⟨ws, hP, hD, hw⟩ := hH
  obtain ⟨k0, hk0⟩ := hd_ix hw he
  exact va_get hexec hb hts hin hown hK hP k0 hk0 hc k hk hlink hsame hv hdg kk
theorem hd_getN (hexec : p.tables.exec = Jvm.exec) (hb : c.code = cc) {own ref C host : String} {T : u_T} {N ci index : Nat} {Ts : List Cond} (hts : ∀ w ∈ Ts, w.before args s = true) (hin : ∀ w ∈ u_ws C T N, w ∈ Ts) (hown : s.vm.findClass own = some m.cls) (hK : va_K D cl tys s) (hH : Hd D cl A w H) {fs : List Value} (he : w a = some (.inr (ci, fs))) (hc : cl[ci]? = some (C, T, N)) (k : Nat) (hk : k < N) (hlink : (Cond.fieldLinkNest own index ref (T k).2.1 (T k).2.2.1 host).before args s = true) (hsame : ∀ x, s.fieldFound? (T k).1 (T k).2.1 (T k).2.2.1 = some x → s.fieldFound? ref (T k).2.1 (T k).2.2.1 = some x) {v : Value} (hv : fs[k]? = some v) (hdg : decode cc pc = .ok (.getfield index, 3))
    (kk : W p l e R s m args below meth c H locs cells slots Q (F0 m (pc + 3) ls (v :: rest))) : W p l e R s m args below meth c H locs cells slots Q (F0 m pc ls (.ref a :: rest)) := by
  obtain ⟨ws, hP, hD, hw⟩ := hH
  obtain ⟨k0, hk0⟩ := hd_ix hw he
  exact va_getN hexec hb hts hin hown hK hP k0 hk0 hc k hk hlink hsame hv hdg kk
theorem hd_put (hexec : p.tables.exec = Jvm.exec) (hb : c.code = cc) {own ref C : String} {T : u_T} {N ci index : Nat} {Ts : List Cond} (hts : ∀ w ∈ Ts, w.before args s = true) (hin : ∀ w ∈ u_ws C T N, w ∈ Ts) (ty0 : Nat → FieldType) (hty : ∀ k, k < N → parseFieldDescriptor (T k).2.2.1 = some (ty0 k)) (hnm : ∀ a, a < N → ∀ b, b < N → a ≠ b → (T a).2.1 ≠ (T b).2.1) (hown : s.vm.findClass own = some m.cls) (hK : va_K D cl tys s) (hH : Hd D cl A w H) (hS0 : va_S A H0 H locs) {fs : List Value} (he : w a = some (.inr (ci, fs))) (hc : cl[ci]? = some (C, T, N)) (k : Nat) (hk : k < N) (hlink : (Cond.fieldLink own index ref (T k).2.1 (T k).2.2.1).before args s = true) (hsame : ∀ x, s.fieldFound? (T k).1 (T k).2.1 (T k).2.2.1 = some x → s.fieldFound? ref (T k).2.1 (T k).2.2.1 = some x) (hfin : (T k).2.2.2 = false) {ty : FieldType} {v : Value} (hd : parseFieldDescriptor (T k).2.2.1 = some ty) (hn : narrow ty v = v) (hfit : fits ty v = true) (hl : k < fs.length)
    (hdg : decode cc pc = .ok (.putfield index, 3)) (kk : ∀ (H1 : Heap) (locs1 : List Loc), Hd D cl A (va_up w a (some (.inr (ci, fs.set k v)))) H1 → va_S A H0 H1 locs1 → W p l e R s m args below meth c H1 locs1 cells slots Q (F0 m (pc + 3) ls rest)) : W p l e R s m args below meth c H locs cells slots Q (F0 m pc ls (v :: .ref a :: rest)) := by
  obtain ⟨ws, hP, hD, hw⟩ := hH
  obtain ⟨k0, hk0⟩ := hd_ix hw he
  exact va_put hexec hb hts hin ty0 hty hnm hown hK hP hD hS0 k0 hk0 hc k hk hlink hsame hfin hd hn hfit hl hdg (fun H1 locs1 hP1 hD1 hS1 => kk H1 locs1 ⟨_, hP1, hD1, hd_set hw hD hk0⟩ hS1)
theorem hd_putF (hexec : p.tables.exec = Jvm.exec) (hb : c.code = cc) {own ref C : String} {T : u_T} {N ci index : Nat} {Ts : List Cond} (hts : ∀ w ∈ Ts, w.before args s = true) (hin : ∀ w ∈ u_ws C T N, w ∈ Ts) (ty0 : Nat → FieldType) (hty : ∀ k, k < N → parseFieldDescriptor (T k).2.2.1 = some (ty0 k)) (hnm : ∀ a, a < N → ∀ b, b < N → a ≠ b → (T a).2.1 ≠ (T b).2.1) (hown : s.vm.findClass own = some m.cls) (hK : va_K D cl tys s) (hH : Hd D cl A w H) (hS0 : va_S A H0 H locs) {fs : List Value} (he : w a = some (.inr (ci, fs))) (hc : cl[ci]? = some (C, T, N)) (k : Nat) (hk : k < N) (hlink : (Cond.fieldLink own index ref (T k).2.1 (T k).2.2.1).before args s = true) (hsame : ∀ x, s.fieldFound? (T k).1 (T k).2.1 (T k).2.2.1 = some x → s.fieldFound? ref (T k).2.1 (T k).2.2.1 = some x) (hfin : (T k).2.2.2 = true) (hin2 : meth.name = "<init>") (hdecl : (T k).1 = own) {ty : FieldType} {v : Value} (hd : parseFieldDescriptor (T k).2.2.1 = some ty) (hn : narrow ty v = v) (hfit : fits ty v = true) (hl : k < fs.length)
    (hdg : decode cc pc = .ok (.putfield index, 3)) (kk : ∀ (H1 : Heap) (locs1 : List Loc), Hd D cl A (va_up w a (some (.inr (ci, fs.set k v)))) H1 → va_S A H0 H1 locs1 → W p l e R s m args below meth c H1 locs1 cells slots Q (F0 m (pc + 3) ls rest)) : W p l e R s m args below meth c H locs cells slots Q (F0 m pc ls (v :: .ref a :: rest)) := by
  obtain ⟨ws, hP, hD, hw⟩ := hH
  obtain ⟨k0, hk0⟩ := hd_ix hw he
  exact va_putF hexec hb hts hin ty0 hty hnm hown hK hP hD hS0 k0 hk0 hc k hk hlink hsame hfin hin2 hdecl hd hn hfit hl hdg (fun H1 locs1 hP1 hD1 hS1 => kk H1 locs1 ⟨_, hP1, hD1, hd_set hw hD hk0⟩ hS1)
theorem hd_new (hexec : p.tables.exec = Jvm.exec) (hb : c.code = cc) {own C : String} {T : u_T} {N ci index : Nat} {Ts : List Cond} (hts : ∀ w ∈ Ts, w.before args s = true) (hin : ∀ w ∈ u_ws C T N, w ∈ Ts) (ty : Nat → FieldType) (hty : ∀ k, k < N → parseFieldDescriptor (T k).2.2.1 = some (ty k)) (hown : s.vm.findClass own = some m.cls) (hcl : (Cond.classLink own index C).before args s = true) (hinst : (Cond.instantiable C N).before args s = true) (hini : (Cond.initialized C).before args s = true)
    (hK : va_K D cl tys s) (hH : Hd D cl A w H) (hS : va_S A H0 H locs) (hA : ∀ q, H0.size ≤ q → A q) (hc : cl[ci]? = some (C, T, N)) {fs : List Value} (hfs : ∀ j, j < N → defaultValue (ty j) = vp_V fs j) (hcells : cells + 1 ≤ R.cells) (hslots : slots + N ≤ R.slots) (hdg : decode cc pc = .ok (.new index, 3))
    (kk : ∀ (q : Nat) (H1 : Heap), w q = none → Hd D cl A (va_up w q (some (.inr (ci, fs)))) H1 → va_S A H0 H1 locs →
      W p l e R s m args below meth c H1 locs (cells + 1) (slots + N) Q (F0 m (pc + 3) ls (.ref q :: rest))) : W p l e R s m args below meth c H locs cells slots Q (F0 m pc ls rest) := by
  obtain ⟨ws, hP, hD, hw⟩ := hH
  exact va_new hexec hb hts hin ty hty hown hcl hinst hini hK hP hD hS hA hc hfs hcells hslots hdg (fun q H1 hP1 hD1 hS1 => kk q H1 (hd_push hw hD1).1 ⟨_, hP1, hD1, (hd_push hw hD1).2⟩ hS1)
/-- newarray of a type whose array class is in the list -/
theorem hd_newa (hexec : p.tables.exec = Jvm.exec) (hb : c.code = cc) {atype : ArrayType} (harr : (Cond.arrayClass (newarray.typeOf atype)).before args s = true) {ty : FieldType} (hty : newarray.typeOf atype = ty) (hprim : ∀ C, ty ≠ .object C) (hK : va_K D cl tys s) (t0 : Nat) {cA : ClassId} (ht : tys[t0]? = some (cA, ty)) (hH : Hd D cl A w H) (hS : va_S A H0 H locs) (hA : ∀ q, H0.size ≤ q → A q)
    {n : Int32} {N' : Nat} {a0 : vp_A} (ha : ∀ cA : ClassId, vp_cell cA a0 = arrV cA N' (fun _ => defaultValue ty)) (hn : ¬ n < 0) (hN : n.toNatClampNeg = N') (hbytes : N' * componentBytes ty ≤ 536870912) (hcells : cells + 1 ≤ R.cells) (hslots : slots + N' ≤ R.slots) (hdg : decode cc pc = .ok (.newarray atype, 2))
    (kk : ∀ (q : Nat) (H1 : Heap), w q = none → Hd D cl A (va_up w q (some (.inl (cA, a0)))) H1 → va_S A H0 H1 locs →
      W p l e R s m args below meth c H1 locs (cells + 1) (slots + N') Q (F0 m (pc + 2) ls (.ref q :: rest))) : W p l e R s m args below meth c H locs cells slots Q (F0 m pc ls (.int n :: rest)) := by
  obtain ⟨ws, hP, hD, hw⟩ := hH
  refine va_newa hexec hb harr hty hK hP hD hS hA ha hn hN hbytes hcells hslots hdg (fun q cB H1 hK1 hP1 hD1 hS1 => ?_)
  have h1 := (hK1.2 tys.length (cB, ty) (by simp)).2
  have h2 := (hK.2 t0 _ ht).2
  have e1 : cB = cA := by
    cases ty with
    | object C => exact absurd rfl (hprim C)
    | _ => exact Option.some.inj (h1.symm.trans h2)
  subst e1
  exact kk q H1 (hd_push hw hD1).1 ⟨_, hP1, hD1, (hd_push hw hD1).2⟩ hS1
theorem hd_newq (hexec : p.tables.exec = Jvm.exec) (hb : c.code = cc) {own C : String} {index : Nat} (hown : s.vm.findClass own = some m.cls) (hclink : (Cond.classLink own index C).before args s = true) (hover : va_AO C s) (hK : va_K D cl tys s) (t0 : Nat) {cA : ClassId} (ht : tys[t0]? = some (cA, .object C)) (hH : Hd D cl A w H) (hS : va_S A H0 H locs) (hA : ∀ q, H0.size ≤ q → A q)
    {n : Int32} {N' : Nat} (hn : ¬ n < 0) (hN : n.toNatClampNeg = N') (hbytes : N' * 4 ≤ 536870912) (hcells : cells + 1 ≤ R.cells) (hslots : slots + N' ≤ R.slots) (hdg : decode cc pc = .ok (.anewarray index, 3))
    (kk : ∀ (q : Nat) (H1 : Heap), w q = none → Hd D cl A (va_up w q (some (.inl (cA, N', .inr (.inr (.inr (.inr (fun _ => none)))))))) H1 → va_S A H0 H1 locs →
      W p l e R s m args below meth c H1 locs (cells + 1) (slots + N') Q (F0 m (pc + 3) ls (.ref q :: rest))) : W p l e R s m args below meth c H locs cells slots Q (F0 m pc ls (.int n :: rest)) := by
  obtain ⟨ws, hP, hD, hw⟩ := hH
  refine va_newq hexec hb hown hclink hover hK hP hD hS hA hn hN hbytes hcells hslots hdg (fun q cB H1 hK1 hP1 hD1 hS1 => ?_)
  obtain ⟨_, _, _, _, _, h1⟩ := (hK1.2 tys.length (cB, .object C) (by simp)).2
  obtain ⟨_, _, _, _, _, h2⟩ := (hK.2 t0 _ ht).2
  have e1 : cB = cA := Option.some.inj (h1.symm.trans h2)
  subst e1
  exact kk q H1 (hd_push hw hD1).1 ⟨_, hP1, hD1, (hd_push hw hD1).2⟩ hS1
theorem hd_alen (hexec : p.tables.exec = Jvm.exec) (hb : c.code = cc) (hK : va_K D cl tys s) (hH : Hd D cl A w H) (t0 : Nat) {cA : ClassId} {x : vp_A} (ha : w a = some (.inl (cA, x))) {ty : FieldType} (ht : tys[t0]? = some (cA, ty)) {v : Int32} (hv : Int32.ofNat x.1 = v) (hdg : decode cc pc = .ok (.arraylength, 1))
    (kk : W p l e R s m args below meth c H locs cells slots Q (F0 m (pc + 1) ls (.int v :: rest))) : W p l e R s m args below meth c H locs cells slots Q (F0 m pc ls (.ref a :: rest)) := by
  obtain ⟨ws, hP, hD, hw⟩ := hH
  obtain ⟨k0, hk0⟩ := hd_ix hw ha
  exact va_alen hexec hb hK hP k0 t0 hk0 ht hv hdg kk
theorem hd_iald (hexec : p.tables.exec = Jvm.exec) (hb : c.code = cc) (hK : va_K D cl tys s) (hH : Hd D cl A w H) (t0 : Nat) {cA : ClassId} {n : Nat} {f : Nat → Int32} (ha : w a = some (.inl (cA, n, .inl f))) (ht : tys[t0]? = some (cA, .int)) {i : Int32} (hin : vp_in i n) (hdg : decode cc pc = .ok (.iaload, 1))
    (kk : W p l e R s m args below meth c H locs cells slots Q (F0 m (pc + 1) ls (.int (f i.toNatClampNeg) :: rest))) : W p l e R s m args below meth c H locs cells slots Q (F0 m pc ls (.int i :: .ref a :: rest)) := by
  obtain ⟨ws, hP, hD, hw⟩ := hH
  obtain ⟨k0, hk0⟩ := hd_ix hw ha
  exact va_iald hexec hb hK hP k0 t0 hk0 ht hin hdg kk
theorem hd_lald (hexec : p.tables.exec = Jvm.exec) (hb : c.code = cc) (hK : va_K D cl tys s) (hH : Hd D cl A w H) (t0 : Nat) {cA : ClassId} {n : Nat} {f : Nat → Int64} (ha : w a = some (.inl (cA, n, .inr (.inl f)))) (ht : tys[t0]? = some (cA, .long)) {i : Int32} (hin : vp_in i n) (hdg : decode cc pc = .ok (.laload, 1))
    (kk : W p l e R s m args below meth c H locs cells slots Q (F0 m (pc + 1) ls (.long (f i.toNatClampNeg) :: rest))) : W p l e R s m args below meth c H locs cells slots Q (F0 m pc ls (.int i :: .ref a :: rest)) := by
  obtain ⟨ws, hP, hD, hw⟩ := hH
  obtain ⟨k0, hk0⟩ := hd_ix hw ha
  exact va_lald hexec hb hK hP k0 t0 hk0 ht hin hdg kk
theorem hd_aldq (hexec : p.tables.exec = Jvm.exec) (hb : c.code = cc) (hK : va_K D cl tys s) (hH : Hd D cl A w H) (t0 : Nat) {cA : ClassId} {C : String} {n : Nat} {f : Nat → Option Nat} (ha : w a = some (.inl (cA, n, .inr (.inr (.inr (.inr f)))))) (ht : tys[t0]? = some (cA, .object C)) {i : Int32} (hin : vp_in i n) (hdg : decode cc pc = .ok (.aaload, 1))
    (kk : W p l e R s m args below meth c H locs cells slots Q (F0 m (pc + 1) ls (va_rf (f i.toNatClampNeg) :: rest))) : W p l e R s m args below meth c H locs cells slots Q (F0 m pc ls (.int i :: .ref a :: rest)) := by
  obtain ⟨ws, hP, hD, hw⟩ := hH
  obtain ⟨k0, hk0⟩ := hd_ix hw ha
  exact va_aldq hexec hb hK hP k0 t0 hk0 ht hin hdg kk
theorem hd_iast (hexec : p.tables.exec = Jvm.exec) (hb : c.code = cc) (hK : va_K D cl tys s) (hH : Hd D cl A w H) (hS : va_S A H0 H locs) (t0 : Nat) {cA : ClassId} {n : Nat} {f : Nat → Int32} (ha : w a = some (.inl (cA, n, .inl f))) (ht : tys[t0]? = some (cA, .int)) {i : Int32} {x : Int32} (hin : vp_in i n) (hdg : decode cc pc = .ok (.iastore, 1))
    (kk : ∀ (H1 : Heap) (locs1 : List Loc), Hd D cl A (va_up w a (some (.inl (cA, n, .inl (upd f i.toNatClampNeg x))))) H1 → va_S A H0 H1 locs1 → W p l e R s m args below meth c H1 locs1 cells slots Q (F0 m (pc + 1) ls rest)) : W p l e R s m args below meth c H locs cells slots Q (F0 m pc ls (.int x :: .int i :: .ref a :: rest)) := by
  obtain ⟨ws, hP, hD, hw⟩ := hH
  obtain ⟨k0, hk0⟩ := hd_ix hw ha
  exact va_iast hexec hb hK hP hD hS k0 t0 hk0 ht hin hdg (fun H1 locs1 hP1 hD1 hS1 => kk H1 locs1 ⟨_, hP1, hD1, hd_set hw hD hk0⟩ hS1)
theorem hd_last (hexec : p.tables.exec = Jvm.exec) (hb : c.code = cc) (hK : va_K D cl tys s) (hH : Hd D cl A w H) (hS : va_S A H0 H locs) (t0 : Nat) {cA : ClassId} {n : Nat} {f : Nat → Int64} (ha : w a = some (.inl (cA, n, .inr (.inl f)))) (ht : tys[t0]? = some (cA, .long)) {i : Int32} {x : Int64} (hin : vp_in i n) (hdg : decode cc pc = .ok (.lastore, 1))
    (kk : ∀ (H1 : Heap) (locs1 : List Loc), Hd D cl A (va_up w a (some (.inl (cA, n, .inr (.inl (vp_updL f i.toNatClampNeg x)))))) H1 → va_S A H0 H1 locs1 → W p l e R s m args below meth c H1 locs1 cells slots Q (F0 m (pc + 1) ls rest)) : W p l e R s m args below meth c H locs cells slots Q (F0 m pc ls (.long x :: .int i :: .ref a :: rest)) := by
  obtain ⟨ws, hP, hD, hw⟩ := hH
  obtain ⟨k0, hk0⟩ := hd_ix hw ha
  exact va_last hexec hb hK hP hD hS k0 t0 hk0 ht hin hdg (fun H1 locs1 hP1 hD1 hS1 => kk H1 locs1 ⟨_, hP1, hD1, hd_set hw hD hk0⟩ hS1)
theorem hd_astqO (hexec : p.tables.exec = Jvm.exec) (hb : c.code = cc) (hK : va_K D cl tys s) (hH : Hd D cl A w H) (hS : va_S A H0 H locs) (t0 ci : Nat) {E : String} {cA : ClassId} {r : vw_C} {n v : Nat} {vs : List Value} {f : Nat → Option Nat} (ha : w a = some (.inl (cA, n, .inr (.inr (.inr (.inr f)))))) (ht : tys[t0]? = some (cA, .object E)) (hca : va_Nw (.castable r.1 E) s) (hv : w v = some (.inr (ci, vs))) (hc : cl[ci]? = some r) {i : Int32} (hin : vp_in i n) (hdg : decode cc pc = .ok (.aastore, 1))
    (kk : ∀ (H1 : Heap) (locs1 : List Loc), Hd D cl A (va_up w a (some (.inl (cA, n, .inr (.inr (.inr (.inr (va_up f i.toNatClampNeg (some v))))))))) H1 → va_S A H0 H1 locs1 → W p l e R s m args below meth c H1 locs1 cells slots Q (F0 m (pc + 1) ls rest)) : W p l e R s m args below meth c H locs cells slots Q (F0 m pc ls (.ref v :: .int i :: .ref a :: rest)) := by
  obtain ⟨ws, hP, hD, hw⟩ := hH
  obtain ⟨k0, hk0⟩ := hd_ix hw ha
  obtain ⟨k1, hk1⟩ := hd_ix hw hv
  exact va_astqO hexec hb hK hP hD hS k0 t0 k1 ci hk0 ht hca hk1 hc hin hdg (fun H1 locs1 hP1 hD1 hS1 => kk H1 locs1 ⟨_, hP1, hD1, hd_set hw hD hk0⟩ hS1)
theorem hd_astqN (hexec : p.tables.exec = Jvm.exec) (hb : c.code = cc) (hK : va_K D cl tys s) (hH : Hd D cl A w H) (hS : va_S A H0 H locs) (t0 : Nat) {cA : ClassId} {C : String} {n : Nat} {f : Nat → Option Nat} (ha : w a = some (.inl (cA, n, .inr (.inr (.inr (.inr f)))))) (ht : tys[t0]? = some (cA, .object C)) {i : Int32} (hin : vp_in i n) (hdg : decode cc pc = .ok (.aastore, 1))
    (kk : ∀ (H1 : Heap) (locs1 : List Loc), Hd D cl A (va_up w a (some (.inl (cA, n, .inr (.inr (.inr (.inr (va_up f i.toNatClampNeg none)))))))) H1 → va_S A H0 H1 locs1 → W p l e R s m args below meth c H1 locs1 cells slots Q (F0 m (pc + 1) ls rest)) : W p l e R s m args below meth c H locs cells slots Q (F0 m pc ls (.null :: .int i :: .ref a :: rest)) := by
  obtain ⟨ws, hP, hD, hw⟩ := hH
  obtain ⟨k0, hk0⟩ := hd_ix hw ha
  exact va_astqN hexec hb hK hP hD hS k0 t0 hk0 ht hin hdg (fun H1 locs1 hP1 hD1 hS1 => kk H1 locs1 ⟨_, hP1, hD1, hd_set hw hD hk0⟩ hS1)
theorem hd_copyi (hexec : p.tables.exec = Jvm.exec) (hb : c.code = cc) (hml : c.maxLocals = ls.size) {own : String} {index : Nat} (hown : s.vm.findClass own = some m.cls) (hlink : (Cond.methodLink own index arraycopyName).before args s = true) (hnat : (Cond.native arraycopyName).before args s = true) (hstat : (Cond.static arraycopyName).before args s = true) (hini : (Cond.initialized "java/lang/System").before args s = true)
    (hK : va_K D cl tys s) (hH : Hd D cl A w H) (hS : va_S A H0 H locs) (t0 : Nat) {a0 : Nat} {cA : ClassId} {n0 n1 : Nat} {f g : Nat → Int32} (ha0 : w a0 = some (.inl (cA, n0, .inl f))) (ha1 : w a = some (.inl (cA, n1, .inl g))) (ht0 : tys[t0]? = some (cA, .int))
    {sp dp n : Int32} (h1 : ¬ sp < 0) (h2 : ¬ dp < 0) (h3 : ¬ n < 0) (h4 : sp.toNatClampNeg + n.toNatClampNeg ≤ n0) (h5 : dp.toNatClampNeg + n.toNatClampNeg ≤ n1)
    (hframes : 1 ≤ R.frames) (hlocals : (rest.map fun v => v.category).sum + (nativeFrameWords "java/lang/System" "arraycopy" 5 + 11) ≤ R.locals) (hdg : decode cc pc = .ok (.invokestatic index, 3))
    (kk : ∀ (H1 : Heap) (locs1 : List Loc), Hd D cl A (va_up w a (some (.inl (cA, n1, .inl (va_cpy f g sp.toNatClampNeg dp.toNatClampNeg n.toNatClampNeg))))) H1 → va_S A H0 H1 locs1 → W p l e R s m args below meth c H1 locs1 cells slots Q (F0 m (pc + 3) ls rest)) : W p l e R s m args below meth c H locs cells slots Q (F0 m pc ls (.int n :: .int dp :: .ref a :: .int sp :: .ref a0 :: rest)) := by
  obtain ⟨ws, hP, hD, hw⟩ := hH
  obtain ⟨k0, hk0⟩ := hd_ix hw ha0
  obtain ⟨k1, hk1⟩ := hd_ix hw ha1
  exact va_copyi hexec hb hml hown hlink hnat hstat hini hK hP hD hS k0 k1 t0 t0 hk0 hk1 ht0 ht0 rfl h1 h2 h3 h4 h5 (fun _ _ => rfl) hframes hlocals hdg (fun H1 locs1 hP1 hD1 hS1 => kk H1 locs1 ⟨_, hP1, hD1, hd_set hw hD hk1⟩ hS1)
theorem hd_copyl (hexec : p.tables.exec = Jvm.exec) (hb : c.code = cc) (hml : c.maxLocals = ls.size) {own : String} {index : Nat} (hown : s.vm.findClass own = some m.cls) (hlink : (Cond.methodLink own index arraycopyName).before args s = true) (hnat : (Cond.native arraycopyName).before args s = true) (hstat : (Cond.static arraycopyName).before args s = true) (hini : (Cond.initialized "java/lang/System").before args s = true)
    (hK : va_K D cl tys s) (hH : Hd D cl A w H) (hS : va_S A H0 H locs) (t0 : Nat) {a0 : Nat} {cA : ClassId} {n0 n1 : Nat} {f g : Nat → Int64} (ha0 : w a0 = some (.inl (cA, n0, .inr (.inl f)))) (ha1 : w a = some (.inl (cA, n1, .inr (.inl g)))) (ht0 : tys[t0]? = some (cA, .long))
    {sp dp n : Int32} (h1 : ¬ sp < 0) (h2 : ¬ dp < 0) (h3 : ¬ n < 0) (h4 : sp.toNatClampNeg + n.toNatClampNeg ≤ n0) (h5 : dp.toNatClampNeg + n.toNatClampNeg ≤ n1)
    (hframes : 1 ≤ R.frames) (hlocals : (rest.map fun v => v.category).sum + (nativeFrameWords "java/lang/System" "arraycopy" 5 + 11) ≤ R.locals) (hdg : decode cc pc = .ok (.invokestatic index, 3))
    (kk : ∀ (H1 : Heap) (locs1 : List Loc), Hd D cl A (va_up w a (some (.inl (cA, n1, .inr (.inl (va_cpy f g sp.toNatClampNeg dp.toNatClampNeg n.toNatClampNeg)))))) H1 → va_S A H0 H1 locs1 → W p l e R s m args below meth c H1 locs1 cells slots Q (F0 m (pc + 3) ls rest)) : W p l e R s m args below meth c H locs cells slots Q (F0 m pc ls (.int n :: .int dp :: .ref a :: .int sp :: .ref a0 :: rest)) := by
  obtain ⟨ws, hP, hD, hw⟩ := hH
  obtain ⟨k0, hk0⟩ := hd_ix hw ha0
  obtain ⟨k1, hk1⟩ := hd_ix hw ha1
  exact va_copyl hexec hb hml hown hlink hnat hstat hini hK hP hD hS k0 k1 t0 t0 hk0 hk1 ht0 ht0 rfl h1 h2 h3 h4 h5 (fun _ _ => rfl) hframes hlocals hdg (fun H1 locs1 hP1 hD1 hS1 => kk H1 locs1 ⟨_, hP1, hD1, hd_set hw hD hk1⟩ hS1)
theorem hd_copyq (hexec : p.tables.exec = Jvm.exec) (hb : c.code = cc) (hml : c.maxLocals = ls.size) {own : String} {index : Nat} (hown : s.vm.findClass own = some m.cls) (hlink : (Cond.methodLink own index arraycopyName).before args s = true) (hnat : (Cond.native arraycopyName).before args s = true) (hstat : (Cond.static arraycopyName).before args s = true) (hini : (Cond.initialized "java/lang/System").before args s = true)
    (hK : va_K D cl tys s) (hH : Hd D cl A w H) (hS : va_S A H0 H locs) (t0 ci : Nat) {a0 : Nat} {cA : ClassId} {n0 n1 : Nat} {f g : Nat → Option Nat} {E : String} {r : vw_C} (ha0 : w a0 = some (.inl (cA, n0, .inr (.inr (.inr (.inr f)))))) (ha1 : w a = some (.inl (cA, n1, .inr (.inr (.inr (.inr g)))))) (ht0 : tys[t0]? = some (cA, .object E)) (hca : va_Nw (.castable r.1 E) s) (hc : cl[ci]? = some r)
    {sp dp n : Int32} (h1 : ¬ sp < 0) (h2 : ¬ dp < 0) (h3 : ¬ n < 0) (h4 : sp.toNatClampNeg + n.toNatClampNeg ≤ n0) (h5 : dp.toNatClampNeg + n.toNatClampNeg ≤ n1) (hel : ∀ i : Nat, i < n.toNatClampNeg → ∀ y : Nat, f (sp.toNatClampNeg + i) = some y → ∃ vs : List Value, w y = some (.inr (ci, vs)))
    (hframes : 1 ≤ R.frames) (hlocals : (rest.map fun v => v.category).sum + (nativeFrameWords "java/lang/System" "arraycopy" 5 + 11) ≤ R.locals) (hdg : decode cc pc = .ok (.invokestatic index, 3))
    (kk : ∀ (H1 : Heap) (locs1 : List Loc), Hd D cl A (va_up w a (some (.inl (cA, n1, .inr (.inr (.inr (.inr (va_cpy f g sp.toNatClampNeg dp.toNatClampNeg n.toNatClampNeg)))))))) H1 → va_S A H0 H1 locs1 → W p l e R s m args below meth c H1 locs1 cells slots Q (F0 m (pc + 3) ls rest)) : W p l e R s m args below meth c H locs cells slots Q (F0 m pc ls (.int n :: .int dp :: .ref a :: .int sp :: .ref a0 :: rest)) := by
  have hel2 : ∀ i : Nat, i < n.toNatClampNeg → ∀ y : Nat, f (sp.toNatClampNeg + i) = some y → ∃ cellV : Cell, H[y]? = some cellV ∧ cellV.vm.isStatics = false ∧ s.vm.findClass r.1 = some cellV.cls := fun i hi y hy => by
    obtain ⟨vs, hvs⟩ := hel i hi y hy
    exact hd_recv hK hH hc hvs
  obtain ⟨ws, hP, hD, hw⟩ := hH
  obtain ⟨k0, hk0⟩ := hd_ix hw ha0
  obtain ⟨k1, hk1⟩ := hd_ix hw ha1
  exact va_copyq (C := r.1) hexec hb hml hown hlink hnat hstat hini hK hP hD hS k0 k1 t0 t0 hk0 hk1 ht0 ht0 h1 h2 h3 h4 h5 hel2 (fun comp c0 g1 g2 => by
    obtain ⟨c1, t1, f1, f2, f3⟩ := Cond.castable_spec (va_Nw.use (A := args) rfl hca)
    cases g2.symm.trans f1
    cases g1.symm.trans f2
    exact f3) hframes hlocals hdg (fun H1 locs1 hP1 hD1 hS1 => kk H1 locs1 ⟨_, hP1, hD1, hd_set hw hD hk1⟩ hS1)
end HDR
end
section
/-! names, by program: classes, methods, the words of the tables by their places -/
def big : List Cond := lw_tbl.filter goodWord
theorem big_tbl {w : Cond} (h : w ∈ big) : w ∈ lw_tbl := (List.mem_filter.mp h).1
theorem big_good {w : Cond} (h : w ∈ big) : goodWord w = true := (List.mem_filter.mp h).2
theorem big_of {w : Cond} (k : Nat) (h : tables_1[k]? = some w) (g : goodWord w = true) : w ∈ big := List.mem_filter.mpr ⟨List.mem_append_right _ (List.mem_of_getElem? h), g⟩
theorem tab_of {w : Cond} (k : Nat) (h : tables_1[k]? = some w) : w ∈ lw_tbl := List.mem_append_right _ (List.mem_of_getElem? h)
abbrev c_B_init : ByteArray := prog_1_method_1_code
abbrev y_B_init : MethodName := ⟨"BoxDrawer", "<init>", "()V"⟩
abbrev ws_B_init : List Cond := .code y_B_init c_B_init 1 none :: big
abbrev c_A_init : ByteArray := prog_24_method_2_code
abbrev y_A_init : MethodName := ⟨"java/util/ArrayList", "<init>", "()V"⟩
abbrev ws_A_init : List Cond := .code y_A_init c_A_init 1 none :: big
abbrev c_AL_init : ByteArray := prog_23_method_1_code
abbrev y_AL_init : MethodName := ⟨"java/util/AbstractList", "<init>", "()V"⟩
abbrev ws_AL_init : List Cond := .code y_AL_init c_AL_init 1 none :: big
abbrev c_AC_init : ByteArray := prog_22_method_1_code
abbrev y_AC_init : MethodName := ⟨"java/util/AbstractCollection", "<init>", "()V"⟩
abbrev ws_AC_init : List Cond := .code y_AC_init c_AC_init 1 none :: big
abbrev c_B_clear : ByteArray := prog_1_method_4_code
abbrev y_B_clear : MethodName := ⟨"BoxDrawer", "clear", "()I"⟩
abbrev ws_B_clear : List Cond := .code y_B_clear c_B_clear 2 (some .int) :: big
abbrev c_A_size : ByteArray := prog_24_method_8_code
abbrev y_A_size : MethodName := ⟨"java/util/ArrayList", "size", "()I"⟩
abbrev ws_A_size : List Cond := .code y_A_size c_A_size 1 (some .int) :: big
abbrev c_A_clear : ByteArray := prog_24_method_40_code
abbrev y_A_clear : MethodName := ⟨"java/util/ArrayList", "clear", "()V"⟩
abbrev ws_A_clear : List Cond := .code y_A_clear c_A_clear 4 none :: big
abbrev c_B_pairs : ByteArray := prog_1_method_7_code
abbrev y_B_pairs : MethodName := ⟨"BoxDrawer", "pairs", "()I"⟩
abbrev ws_B_pairs : List Cond := .code y_B_pairs c_B_pairs 6 (some .int) :: big
abbrev c_A_get : ByteArray := prog_24_method_20_code
abbrev y_A_get : MethodName := ⟨"java/util/ArrayList", "get", "(I)Ljava/lang/Object;"⟩
abbrev ws_A_get : List Cond := .code y_A_get c_A_get 2 (some (.object "java/lang/Object")) :: big
abbrev c_O_checkIndex : ByteArray := prog_28_method_17_code
abbrev y_O_checkIndex : MethodName := ⟨"java/util/Objects", "checkIndex", "(II)I"⟩
abbrev ws_O_checkIndex : List Cond := .code y_O_checkIndex c_O_checkIndex 2 (some .int) :: big
abbrev c_P_checkIndex : ByteArray := prog_32_method_11_code
abbrev y_P_checkIndex : MethodName := ⟨"jdk/internal/util/Preconditions", "checkIndex", "(IILjava/util/function/BiFunction;)I"⟩
abbrev ws_P_checkIndex : List Cond := .code y_P_checkIndex c_P_checkIndex 3 (some .int) :: big
abbrev c_A_elementData : ByteArray := prog_24_method_18_code
abbrev y_A_elementData : MethodName := ⟨"java/util/ArrayList", "elementData", "(I)Ljava/lang/Object;"⟩
abbrev ws_A_elementData : List Cond := .code y_A_elementData c_A_elementData 2 (some (.object "java/lang/Object")) :: big
abbrev c_X_meets : ByteArray := prog_2_method_2_code
abbrev y_X_meets : MethodName := ⟨"BoxDrawer$Box", "meets", "(LBoxDrawer$Box;)Z"⟩
abbrev ws_X_meets : List Cond := .code y_X_meets c_X_meets 2 (some .boolean) :: big
abbrev c_B_append : ByteArray := prog_1_method_22_code
abbrev y_B_append : MethodName := ⟨"BoxDrawer", "append", "(I)V"⟩
abbrev ws_B_append : List Cond := .code y_B_append c_B_append 2 none :: big
abbrev c_B_makeRoom : ByteArray := prog_1_method_23_code
abbrev y_B_makeRoom : MethodName := ⟨"BoxDrawer", "makeRoom", "(I)V"⟩
abbrev ws_B_makeRoom : List Cond := .code y_B_makeRoom c_B_makeRoom 3 none :: big
abbrev c_T_max : ByteArray := prog_14_method_65_code
abbrev y_T_max : MethodName := ⟨"java/lang/Math", "max", "(II)I"⟩
abbrev ws_T_max : List Cond := .code y_T_max c_T_max 2 (some .int) :: big
abbrev c_T_min : ByteArray := prog_14_method_69_code
abbrev y_T_min : MethodName := ⟨"java/lang/Math", "min", "(II)I"⟩
abbrev ws_T_min : List Cond := .code y_T_min c_T_min 2 (some .int) :: big
abbrev c_R_copyOf : ByteArray := prog_25_method_123_code
abbrev y_R_copyOf : MethodName := ⟨"java/util/Arrays", "copyOf", "([II)[I"⟩
abbrev ws_R_copyOf : List Cond := .code y_R_copyOf c_R_copyOf 3 (some (.array .int)) :: big
abbrev c_B_count : ByteArray := prog_1_method_12_code
abbrev y_B_count : MethodName := ⟨"BoxDrawer", "count", "(I)I"⟩
abbrev ws_B_count : List Cond := .code y_B_count c_B_count 2 (some .int) :: big
abbrev c_L_put : ByteArray := method_3_code
abbrev y_L_put : MethodName := ⟨"BoxDrawerLaw", "put", "(LBoxDrawer;IIIII[J)I"⟩
abbrev ws_L_put : List Cond := .codeWith y_L_put c_L_put 8 (some .int) [(0, 23, 26, 13), (0, 23, 30, 15)] :: big
abbrev c_B_put : ByteArray := prog_1_method_2_code
abbrev y_B_put : MethodName := ⟨"BoxDrawer", "put", "(IIIII)Z"⟩
abbrev ws_B_put : List Cond := .code y_B_put c_B_put 8 (some .boolean) :: big
abbrev c_B_requireNumber : ByteArray := prog_1_method_13_code
abbrev y_B_requireNumber : MethodName := ⟨"BoxDrawer", "requireNumber", "(I)V"⟩
abbrev ws_B_requireNumber : List Cond := .code y_B_requireNumber c_B_requireNumber 1 none :: big
abbrev c_B_requireBounds : ByteArray := prog_1_method_14_code
abbrev y_B_requireBounds : MethodName := ⟨"BoxDrawer", "requireBounds", "(IIII)V"⟩
abbrev ws_B_requireBounds : List Cond := .code y_B_requireBounds c_B_requireBounds 4 none :: big
abbrev c_B_requirePlace : ByteArray := prog_1_method_15_code
abbrev y_B_requirePlace : MethodName := ⟨"BoxDrawer", "requirePlace", "(II)V"⟩
abbrev ws_B_requirePlace : List Cond := .code y_B_requirePlace c_B_requirePlace 2 none :: big
abbrev c_X_init : ByteArray := prog_2_method_1_code
abbrev y_X_init : MethodName := ⟨"BoxDrawer$Box", "<init>", "(IIIII)V"⟩
abbrev ws_X_init : List Cond := .code y_X_init c_X_init 6 none :: big
abbrev c_B_indexFor : ByteArray := prog_1_method_18_code
abbrev y_B_indexFor : MethodName := ⟨"BoxDrawer", "indexFor", "(I)I"⟩
abbrev ws_B_indexFor : List Cond := .code y_B_indexFor c_B_indexFor 5 (some .int) :: big
abbrev c_B_isAt : ByteArray := prog_1_method_19_code
abbrev y_B_isAt : MethodName := ⟨"BoxDrawer", "isAt", "(II)Z"⟩
abbrev ws_B_isAt : List Cond := .code y_B_isAt c_B_isAt 3 (some .boolean) :: big
abbrev c_A_set : ByteArray := prog_24_method_23_code
abbrev y_A_set : MethodName := ⟨"java/util/ArrayList", "set", "(ILjava/lang/Object;)Ljava/lang/Object;"⟩
abbrev ws_A_set : List Cond := .code y_A_set c_A_set 4 (some (.object "java/lang/Object")) :: big
abbrev c_A_add : ByteArray := prog_24_method_26_code
abbrev y_A_add : MethodName := ⟨"java/util/ArrayList", "add", "(ILjava/lang/Object;)V"⟩
abbrev ws_A_add : List Cond := .code y_A_add c_A_add 5 none :: big
abbrev c_A_rangeCheckForAdd : ByteArray := prog_24_method_45_code
abbrev y_A_rangeCheckForAdd : MethodName := ⟨"java/util/ArrayList", "rangeCheckForAdd", "(I)V"⟩
abbrev ws_A_rangeCheckForAdd : List Cond := .code y_A_rangeCheckForAdd c_A_rangeCheckForAdd 2 none :: big
abbrev c_S_newLength : ByteArray := prog_31_method_27_code
abbrev y_S_newLength : MethodName := ⟨"jdk/internal/util/ArraysSupport", "newLength", "(III)I"⟩
abbrev ws_S_newLength : List Cond := .code y_S_newLength c_S_newLength 4 (some .int) :: big
abbrev c_R_copyOf2 : ByteArray := prog_25_method_121_code
abbrev y_R_copyOf2 : MethodName := ⟨"java/util/Arrays", "copyOf", "([BI)[B"⟩
abbrev ws_R_copyOf2 : List Cond := .code y_R_copyOf2 c_R_copyOf2 3 (some (.array .byte)) :: big
abbrev c_A_grow : ByteArray := prog_24_method_7_code
abbrev y_A_grow : MethodName := ⟨"java/util/ArrayList", "grow", "()[Ljava/lang/Object;"⟩
abbrev ws_A_grow : List Cond := .code y_A_grow c_A_grow 1 (some (.array (.object "java/lang/Object"))) :: big
abbrev c_A_grow2 : ByteArray := prog_24_method_6_code
abbrev y_A_grow2 : MethodName := ⟨"java/util/ArrayList", "grow", "(I)[Ljava/lang/Object;"⟩
abbrev ws_A_grow2 : List Cond := .code y_A_grow2 c_A_grow2 4 (some (.array (.object "java/lang/Object"))) :: big
abbrev c_R_copyOf3 : ByteArray := prog_25_method_119_code
abbrev y_R_copyOf3 : MethodName := ⟨"java/util/Arrays", "copyOf", "([Ljava/lang/Object;I)[Ljava/lang/Object;"⟩
abbrev ws_R_copyOf3 : List Cond := .code y_R_copyOf3 c_R_copyOf3 2 (some (.array (.object "java/lang/Object"))) :: big
abbrev c_R_copyOf4 : ByteArray := prog_25_method_120_code
abbrev y_R_copyOf4 : MethodName := ⟨"java/util/Arrays", "copyOf", "([Ljava/lang/Object;ILjava/lang/Class;)[Ljava/lang/Object;"⟩
abbrev ws_R_copyOf4 : List Cond := .code y_R_copyOf4 c_R_copyOf4 4 (some (.array (.object "java/lang/Object"))) :: big
abbrev c_L_take : ByteArray := method_4_code
abbrev y_L_take : MethodName := ⟨"BoxDrawerLaw", "take", "(LBoxDrawer;I[J)I"⟩
abbrev ws_L_take : List Cond := .codeWith y_L_take c_L_take 4 (some .int) [(0, 16, 19, 13)] :: big
abbrev c_B_take : ByteArray := prog_1_method_3_code
abbrev y_B_take : MethodName := ⟨"BoxDrawer", "take", "(I)Z"⟩
abbrev ws_B_take : List Cond := .code y_B_take c_B_take 3 (some .boolean) :: big
abbrev c_A_remove : ByteArray := prog_24_method_29_code
abbrev y_A_remove : MethodName := ⟨"java/util/ArrayList", "remove", "(I)Ljava/lang/Object;"⟩
abbrev ws_A_remove : List Cond := .code y_A_remove c_A_remove 4 (some (.object "java/lang/Object")) :: big
abbrev c_A_fastRemove : ByteArray := prog_24_method_39_code
abbrev y_A_fastRemove : MethodName := ⟨"java/util/ArrayList", "fastRemove", "([Ljava/lang/Object;I)V"⟩
abbrev ws_A_fastRemove : List Cond := .code y_A_fastRemove c_A_fastRemove 4 none :: big
abbrev c_L_find : ByteArray := method_5_code
abbrev y_L_find : MethodName := ⟨"BoxDrawerLaw", "find", "(LBoxDrawer;IIIII[J)I"⟩
abbrev ws_L_find : List Cond := .codeWith y_L_find c_L_find 8 (some .int) [(0, 16, 19, 15)] :: big
abbrev c_B_find : ByteArray := prog_1_method_5_code
abbrev y_B_find : MethodName := ⟨"BoxDrawer", "find", "(IIIII)I"⟩
abbrev ws_B_find : List Cond := .code y_B_find c_B_find 9 (some .int) :: big
abbrev c_B_fits : ByteArray := prog_1_method_21_code
abbrev y_B_fits : MethodName := ⟨"BoxDrawer", "fits", "(ILBoxDrawer$Box;LBoxDrawer$Box;)Z"⟩
abbrev ws_B_fits : List Cond := .code y_B_fits c_B_fits 3 (some .boolean) :: big
abbrev c_X_liesIn : ByteArray := prog_2_method_3_code
abbrev y_X_liesIn : MethodName := ⟨"BoxDrawer$Box", "liesIn", "(LBoxDrawer$Box;)Z"⟩
abbrev ws_X_liesIn : List Cond := .code y_X_liesIn c_X_liesIn 2 (some .boolean) :: big
abbrev c_L_nearest : ByteArray := method_6_code
abbrev y_L_nearest : MethodName := ⟨"BoxDrawerLaw", "nearest", "(LBoxDrawer;III[J)I"⟩
abbrev ws_L_nearest : List Cond := .codeWith y_L_nearest c_L_nearest 6 (some .int) [(0, 12, 15, 15)] :: big
abbrev c_B_nearest : ByteArray := prog_1_method_6_code
abbrev y_B_nearest : MethodName := ⟨"BoxDrawer", "nearest", "(III)I"⟩
abbrev ws_B_nearest : List Cond := .code y_B_nearest c_B_nearest 7 (some .int) :: big
abbrev c_B_makeRoomForDistances : ByteArray := prog_1_method_24_code
abbrev y_B_makeRoomForDistances : MethodName := ⟨"BoxDrawer", "makeRoomForDistances", "()V"⟩
abbrev ws_B_makeRoomForDistances : List Cond := .code y_B_makeRoomForDistances c_B_makeRoomForDistances 1 none :: big
abbrev c_X_distanceFrom : ByteArray := prog_2_method_4_code
abbrev y_X_distanceFrom : MethodName := ⟨"BoxDrawer$Box", "distanceFrom", "(II)J"⟩
abbrev ws_X_distanceFrom : List Cond := .code y_X_distanceFrom c_X_distanceFrom 7 (some .long) :: big
abbrev c_X_wayTo : ByteArray := prog_2_method_5_code
abbrev y_X_wayTo : MethodName := ⟨"BoxDrawer$Box", "wayTo", "(III)J"⟩
abbrev ws_X_wayTo : List Cond := .code y_X_wayTo c_X_wayTo 3 (some .long) :: big
abbrev c_B_insertByDistance : ByteArray := prog_1_method_25_code
abbrev y_B_insertByDistance : MethodName := ⟨"BoxDrawer", "insertByDistance", "(IJI)V"⟩
abbrev ws_B_insertByDistance : List Cond := .code y_B_insertByDistance c_B_insertByDistance 7 none :: big
abbrev c_B_indexBehind : ByteArray := prog_1_method_26_code
abbrev y_B_indexBehind : MethodName := ⟨"BoxDrawer", "indexBehind", "(J)I"⟩
abbrev ws_B_indexBehind : List Cond := .code y_B_indexBehind c_B_indexBehind 6 (some .int) :: big
abbrev c_L_distance : ByteArray := method_7_code
abbrev y_L_distance : MethodName := ⟨"BoxDrawerLaw", "distance", "(LBoxDrawer;III[J)I"⟩
abbrev ws_L_distance : List Cond := .codeWith y_L_distance c_L_distance 6 (some .int) [(0, 11, 14, 13), (0, 11, 18, 15)] :: big
abbrev c_B_distance : ByteArray := prog_1_method_8_code
abbrev y_B_distance : MethodName := ⟨"BoxDrawer", "distance", "(III)J"⟩
abbrev ws_B_distance : List Cond := .code y_B_distance c_B_distance 5 (some .long) :: big
abbrev c_B_requireBox : ByteArray := prog_1_method_17_code
abbrev y_B_requireBox : MethodName := ⟨"BoxDrawer", "requireBox", "(I)LBoxDrawer$Box;"⟩
abbrev ws_B_requireBox : List Cond := .code y_B_requireBox c_B_requireBox 3 (some (.object "BoxDrawer$Box")) :: big
abbrev c_L_bounds : ByteArray := method_8_code
abbrev y_L_bounds : MethodName := ⟨"BoxDrawerLaw", "bounds", "(LBoxDrawer;I[J)I"⟩
abbrev ws_L_bounds : List Cond := .codeWith y_L_bounds c_L_bounds 4 (some .int) [(0, 9, 12, 13), (0, 9, 15, 37)] :: big
abbrev c_B_bounds : ByteArray := prog_1_method_9_code
abbrev y_B_bounds : MethodName := ⟨"BoxDrawer", "bounds", "(I)I"⟩
abbrev ws_B_bounds : List Cond := .code y_B_bounds c_B_bounds 5 (some .int) :: big
abbrev c_B_requireBound : ByteArray := prog_1_method_16_code
abbrev y_B_requireBound : MethodName := ⟨"BoxDrawer", "requireBound", "(I)V"⟩
abbrev ws_B_requireBound : List Cond := .code y_B_requireBound c_B_requireBound 1 none :: big
abbrev c_A_isEmpty : ByteArray := prog_24_method_9_code
abbrev y_A_isEmpty : MethodName := ⟨"java/util/ArrayList", "isEmpty", "()Z"⟩
abbrev ws_A_isEmpty : List Cond := .code y_A_isEmpty c_A_isEmpty 1 (some .boolean) :: big
abbrev c_X_bound : ByteArray := prog_2_method_6_code
abbrev y_X_bound : MethodName := ⟨"BoxDrawer$Box", "bound", "(I)I"⟩
abbrev ws_X_bound : List Cond := .code y_X_bound c_X_bound 2 (some .int) :: big
abbrev c_B_isLeast : ByteArray := prog_1_method_20_code
abbrev y_B_isLeast : MethodName := ⟨"BoxDrawer", "isLeast", "(I)Z"⟩
abbrev ws_B_isLeast : List Cond := .code y_B_isLeast c_B_isLeast 1 (some .boolean) :: big
abbrev c_L_result : ByteArray := method_9_code
abbrev y_L_result : MethodName := ⟨"BoxDrawerLaw", "result", "(LBoxDrawer;I[J)I"⟩
abbrev ws_L_result : List Cond := .codeWith y_L_result c_L_result 4 (some .int) [(0, 9, 12, 13)] :: big
abbrev c_B_result : ByteArray := prog_1_method_10_code
abbrev y_B_result : MethodName := ⟨"BoxDrawer", "result", "(I)I"⟩
abbrev ws_B_result : List Cond := .code y_B_result c_B_result 2 (some .int) :: big
abbrev c_L_box : ByteArray := method_10_code
abbrev y_L_box : MethodName := ⟨"BoxDrawerLaw", "box", "(LBoxDrawer;II[J)I"⟩
abbrev ws_L_box : List Cond := .codeWith y_L_box c_L_box 5 (some .int) [(0, 10, 13, 13)] :: big
abbrev c_B_box : ByteArray := prog_1_method_11_code
abbrev y_B_box : MethodName := ⟨"BoxDrawer", "box", "(II)I"⟩
abbrev ws_B_box : List Cond := .code y_B_box c_B_box 4 (some .int) :: big
abbrev c_M_init : ByteArray := prog_4_method_1_code
abbrev y_M_init : MethodName := ⟨"BoxDrawerModel", "<init>", "()V"⟩
abbrev ws_M_init : List Cond := .code y_M_init c_M_init 1 none :: big
abbrev c_M_thrown : ByteArray := prog_4_method_2_code
abbrev y_M_thrown : MethodName := ⟨"BoxDrawerModel", "thrown", "()I"⟩
abbrev ws_M_thrown : List Cond := .code y_M_thrown c_M_thrown 1 (some .int) :: big
abbrev c_M_put : ByteArray := prog_4_method_9_code
abbrev y_M_put : MethodName := ⟨"BoxDrawerModel", "put", "(IIIII)Z"⟩
abbrev ws_M_put : List Cond := .code y_M_put c_M_put 7 (some .boolean) :: big
abbrev c_M_within : ByteArray := prog_4_method_4_code
abbrev y_M_within : MethodName := ⟨"BoxDrawerModel", "within", "(III)Z"⟩
abbrev ws_M_within : List Cond := .code y_M_within c_M_within 3 (some .boolean) :: big
abbrev c_M_fail : ByteArray := prog_4_method_3_code
abbrev y_M_fail : MethodName := ⟨"BoxDrawerModel", "fail", "(I)I"⟩
abbrev ws_M_fail : List Cond := .code y_M_fail c_M_fail 2 (some .int) :: big
abbrev c_M_areBounds : ByteArray := prog_4_method_6_code
abbrev y_M_areBounds : MethodName := ⟨"BoxDrawerModel", "areBounds", "(IIII)Z"⟩
abbrev ws_M_areBounds : List Cond := .code y_M_areBounds c_M_areBounds 4 (some .boolean) :: big
abbrev c_M_isFar : ByteArray := prog_4_method_5_code
abbrev y_M_isFar : MethodName := ⟨"BoxDrawerModel", "isFar", "(I)Z"⟩
abbrev ws_M_isFar : List Cond := .code y_M_isFar c_M_isFar 1 (some .boolean) :: big
abbrev c_M_take : ByteArray := prog_4_method_10_code
abbrev y_M_take : MethodName := ⟨"BoxDrawerModel", "take", "(I)Z"⟩
abbrev ws_M_take : List Cond := .code y_M_take c_M_take 3 (some .boolean) :: big
abbrev c_M_clear : ByteArray := prog_4_method_11_code
abbrev y_M_clear : MethodName := ⟨"BoxDrawerModel", "clear", "()I"⟩
abbrev ws_M_clear : List Cond := .code y_M_clear c_M_clear 3 (some .int) :: big
abbrev c_M_many : ByteArray := prog_4_method_8_code
abbrev y_M_many : MethodName := ⟨"BoxDrawerModel", "many", "()I"⟩
abbrev ws_M_many : List Cond := .code y_M_many c_M_many 3 (some .int) :: big
abbrev c_M_find : ByteArray := prog_4_method_15_code
abbrev y_M_find : MethodName := ⟨"BoxDrawerModel", "find", "(IIIII)I"⟩
abbrev ws_M_find : List Cond := .code y_M_find c_M_find 8 (some .int) :: big
abbrev c_M_meets : ByteArray := prog_4_method_12_code
abbrev y_M_meets : MethodName := ⟨"BoxDrawerModel", "meets", "(IIIII)Z"⟩
abbrev ws_M_meets : List Cond := .code y_M_meets c_M_meets 6 (some .boolean) :: big
abbrev c_M_lies : ByteArray := prog_4_method_13_code
abbrev y_M_lies : MethodName := ⟨"BoxDrawerModel", "lies", "(IIIII)Z"⟩
abbrev ws_M_lies : List Cond := .code y_M_lies c_M_lies 6 (some .boolean) :: big
abbrev c_M_has : ByteArray := prog_4_method_14_code
abbrev y_M_has : MethodName := ⟨"BoxDrawerModel", "has", "(IIIII)Z"⟩
abbrev ws_M_has : List Cond := .code y_M_has c_M_has 6 (some .boolean) :: big
abbrev c_M_nearest : ByteArray := prog_4_method_18_code
abbrev y_M_nearest : MethodName := ⟨"BoxDrawerModel", "nearest", "(III)I"⟩
abbrev ws_M_nearest : List Cond := .code y_M_nearest c_M_nearest 15 (some .int) :: big
abbrev c_M_away : ByteArray := prog_4_method_17_code
abbrev y_M_away : MethodName := ⟨"BoxDrawerModel", "away", "(III)J"⟩
abbrev ws_M_away : List Cond := .code y_M_away c_M_away 8 (some .long) :: big
abbrev c_M_gap : ByteArray := prog_4_method_16_code
abbrev y_M_gap : MethodName := ⟨"BoxDrawerModel", "gap", "(JJJ)J"⟩
abbrev ws_M_gap : List Cond := .code y_M_gap c_M_gap 6 (some .long) :: big
abbrev c_M_pairs : ByteArray := prog_4_method_19_code
abbrev y_M_pairs : MethodName := ⟨"BoxDrawerModel", "pairs", "()I"⟩
abbrev ws_M_pairs : List Cond := .code y_M_pairs c_M_pairs 4 (some .int) :: big
abbrev c_M_distance : ByteArray := prog_4_method_20_code
abbrev y_M_distance : MethodName := ⟨"BoxDrawerModel", "distance", "(III)J"⟩
abbrev ws_M_distance : List Cond := .code y_M_distance c_M_distance 4 (some .long) :: big
abbrev c_M_isThere : ByteArray := prog_4_method_7_code
abbrev y_M_isThere : MethodName := ⟨"BoxDrawerModel", "isThere", "(I)Z"⟩
abbrev ws_M_isThere : List Cond := .code y_M_isThere c_M_isThere 2 (some .boolean) :: big
abbrev c_M_bounds : ByteArray := prog_4_method_22_code
abbrev y_M_bounds : MethodName := ⟨"BoxDrawerModel", "bounds", "(I)I"⟩
abbrev ws_M_bounds : List Cond := .code y_M_bounds c_M_bounds 4 (some .int) :: big
abbrev c_M_bound : ByteArray := prog_4_method_21_code
abbrev y_M_bound : MethodName := ⟨"BoxDrawerModel", "bound", "(II)I"⟩
abbrev ws_M_bound : List Cond := .code y_M_bound c_M_bound 3 (some .int) :: big
abbrev c_M_result : ByteArray := prog_4_method_23_code
abbrev y_M_result : MethodName := ⟨"BoxDrawerModel", "result", "(I)I"⟩
abbrev ws_M_result : List Cond := .code y_M_result c_M_result 2 (some .int) :: big
abbrev c_M_box : ByteArray := prog_4_method_24_code
abbrev y_M_box : MethodName := ⟨"BoxDrawerModel", "box", "(II)I"⟩
abbrev ws_M_box : List Cond := .code y_M_box c_M_box 3 (some .int) :: big
abbrev c_M_count : ByteArray := prog_4_method_25_code
abbrev y_M_count : MethodName := ⟨"BoxDrawerModel", "count", "(I)I"⟩
abbrev ws_M_count : List Cond := .code y_M_count c_M_count 2 (some .int) :: big
end
section
/-! the words by their places -/
theorem mw_0 : (Jvm.Cond.initialized "BoxDrawerLaw") ∈ big := big_of 0 rfl (by decide +kernel)
theorem mw_1 : (Jvm.Cond.initialized "BoxDrawer") ∈ big := big_of 1 rfl (by decide +kernel)
theorem mw_2 : (Jvm.Cond.initialized "java/util/AbstractCollection") ∈ big := big_of 2 rfl (by decide +kernel)
theorem mw_3 : (Jvm.Cond.initialized "java/util/AbstractList") ∈ big := big_of 3 rfl (by decide +kernel)
theorem mw_4 : (Jvm.Cond.initialized "java/util/ArrayList") ∈ big := big_of 4 rfl (by decide +kernel)
theorem mw_5 : (Jvm.Cond.initialized "BoxDrawerModel") ∈ big := big_of 5 rfl (by decide +kernel)
theorem mw_6 : (Jvm.Cond.initialized "java/lang/Throwable") ∈ big := big_of 6 rfl (by decide +kernel)
theorem mw_7 : (Jvm.Cond.initialized "java/lang/Exception") ∈ big := big_of 7 rfl (by decide +kernel)
theorem mw_8 : (Jvm.Cond.initialized "java/lang/RuntimeException") ∈ big := big_of 8 rfl (by decide +kernel)
theorem mw_9 : (Jvm.Cond.initialized "java/lang/IndexOutOfBoundsException") ∈ big := big_of 9 rfl (by decide +kernel)
theorem mw_10 : (Jvm.Cond.initialized "java/lang/IllegalArgumentException") ∈ big := big_of 10 rfl (by decide +kernel)
theorem mw_11 : (Jvm.Cond.initialized "BoxDrawer$Box") ∈ big := big_of 11 rfl (by decide +kernel)
theorem mw_12 : (Jvm.Cond.initialized "java/util/Objects") ∈ big := big_of 12 rfl (by decide +kernel)
theorem mw_13 : (Jvm.Cond.initialized "jdk/internal/util/Preconditions") ∈ big := big_of 13 rfl (by decide +kernel)
theorem mw_16 : (Jvm.Cond.initialized "java/lang/String") ∈ big := big_of 16 rfl (by decide +kernel)
theorem mw_18 : (Jvm.Cond.initialized "jdk/internal/util/ArraysSupport") ∈ big := big_of 18 rfl (by decide +kernel)
theorem mw_19 : (Jvm.Cond.initialized "java/lang/Math") ∈ big := big_of 19 rfl (by decide +kernel)
theorem mw_20 : (Jvm.Cond.initialized "java/util/Arrays") ∈ big := big_of 20 rfl (by decide +kernel)
theorem mw_21 : (Jvm.Cond.initialized "java/lang/System") ∈ big := big_of 21 rfl (by decide +kernel)
theorem mw_24 : (Jvm.Cond.initialized "java/lang/IllegalStateException") ∈ big := big_of 24 rfl (by decide +kernel)
theorem mw_25 : (Jvm.Cond.classLink "BoxDrawerLaw" (8 : Nat) "BoxDrawer") ∈ big := big_of 25 rfl (by decide +kernel)
theorem mw_26 : (Jvm.Cond.instantiable "BoxDrawer" (4 : Nat)) ∈ big := big_of 26 rfl (by decide +kernel)
theorem mw_27 : (Jvm.Cond.methodLink "BoxDrawerLaw" (46 : Nat) ({ cls := "BoxDrawer", name := "<init>", desc := "()V" } : Jvm.MethodName)) ∈ big := big_of 27 rfl (by decide +kernel)
theorem mw_28 : (Jvm.Cond.instanceMethod ({ cls := "BoxDrawer", name := "<init>", desc := "()V" } : Jvm.MethodName)) ∈ big := big_of 28 rfl (by decide +kernel)
theorem mw_29 : (Jvm.Cond.code ({ cls := "BoxDrawer", name := "<init>", desc := "()V" } : Jvm.MethodName) prog_1_method_1_code (1 : Nat) (Option.none : Option Jvm.ClassFile.FieldType)) ∈ big := big_of 29 rfl (by decide +kernel)
theorem mw_30 : (Jvm.Cond.methodLink "BoxDrawer" (1 : Nat) ({ cls := "java/lang/Object", name := "<init>", desc := "()V" } : Jvm.MethodName)) ∈ big := big_of 30 rfl (by decide +kernel)
theorem mw_31 : (Jvm.Cond.instanceMethod ({ cls := "java/lang/Object", name := "<init>", desc := "()V" } : Jvm.MethodName)) ∈ big := big_of 31 rfl (by decide +kernel)
theorem mw_32 : (Jvm.Cond.code ({ cls := "java/lang/Object", name := "<init>", desc := "()V" } : Jvm.MethodName) object_method_1_code (1 : Nat) (Option.none : Option Jvm.ClassFile.FieldType)) ∈ big := big_of 32 rfl (by decide +kernel)
theorem mw_33 : (Jvm.Cond.classLink "BoxDrawer" (7 : Nat) "java/util/ArrayList") ∈ big := big_of 33 rfl (by decide +kernel)
theorem mw_34 : (Jvm.Cond.instantiable "java/util/ArrayList" (3 : Nat)) ∈ big := big_of 34 rfl (by decide +kernel)
theorem mw_35 : (Jvm.Cond.methodLink "BoxDrawer" (9 : Nat) ({ cls := "java/util/ArrayList", name := "<init>", desc := "()V" } : Jvm.MethodName)) ∈ big := big_of 35 rfl (by decide +kernel)
theorem mw_36 : (Jvm.Cond.instanceMethod ({ cls := "java/util/ArrayList", name := "<init>", desc := "()V" } : Jvm.MethodName)) ∈ big := big_of 36 rfl (by decide +kernel)
theorem mw_37 : (Jvm.Cond.code ({ cls := "java/util/ArrayList", name := "<init>", desc := "()V" } : Jvm.MethodName) prog_24_method_2_code (1 : Nat) (Option.none : Option Jvm.ClassFile.FieldType)) ∈ big := big_of 37 rfl (by decide +kernel)
theorem mw_38 : (Jvm.Cond.methodLink "java/util/ArrayList" (1 : Nat) ({ cls := "java/util/AbstractList", name := "<init>", desc := "()V" } : Jvm.MethodName)) ∈ big := big_of 38 rfl (by decide +kernel)
theorem mw_39 : (Jvm.Cond.instanceMethod ({ cls := "java/util/AbstractList", name := "<init>", desc := "()V" } : Jvm.MethodName)) ∈ big := big_of 39 rfl (by decide +kernel)
theorem mw_40 : (Jvm.Cond.code ({ cls := "java/util/AbstractList", name := "<init>", desc := "()V" } : Jvm.MethodName) prog_23_method_1_code (1 : Nat) (Option.none : Option Jvm.ClassFile.FieldType)) ∈ big := big_of 40 rfl (by decide +kernel)
theorem mw_41 : (Jvm.Cond.methodLink "java/util/AbstractList" (1 : Nat) ({ cls := "java/util/AbstractCollection", name := "<init>", desc := "()V" } : Jvm.MethodName)) ∈ big := big_of 41 rfl (by decide +kernel)
theorem mw_42 : (Jvm.Cond.instanceMethod ({ cls := "java/util/AbstractCollection", name := "<init>", desc := "()V" } : Jvm.MethodName)) ∈ big := big_of 42 rfl (by decide +kernel)
theorem mw_43 : (Jvm.Cond.code ({ cls := "java/util/AbstractCollection", name := "<init>", desc := "()V" } : Jvm.MethodName) prog_22_method_1_code (1 : Nat) (Option.none : Option Jvm.ClassFile.FieldType)) ∈ big := big_of 43 rfl (by decide +kernel)
theorem mw_44 : (Jvm.Cond.methodLink "java/util/AbstractCollection" (1 : Nat) ({ cls := "java/lang/Object", name := "<init>", desc := "()V" } : Jvm.MethodName)) ∈ big := big_of 44 rfl (by decide +kernel)
theorem mw_45 : (Jvm.Cond.fieldLink "java/util/ArrayList" (39 : Nat) "java/util/ArrayList" "DEFAULTCAPACITY_EMPTY_ELEMENTDATA" "[Ljava/lang/Object;") ∈ big := big_of 45 rfl (by decide +kernel)
theorem mw_47 : (Jvm.Cond.fieldLink "java/util/ArrayList" (9 : Nat) "java/util/ArrayList" "elementData" "[Ljava/lang/Object;") ∈ big := big_of 47 rfl (by decide +kernel)
theorem mw_48 : (Jvm.Cond.fieldLink "java/util/ArrayList" (48 : Nat) "java/util/ArrayList" "size" "I") ∈ big := big_of 48 rfl (by decide +kernel)
theorem mw_49 : (Jvm.Cond.fieldLink "java/util/AbstractList" (7 : Nat) "java/util/AbstractList" "modCount" "I") ∈ big := big_of 49 rfl (by decide +kernel)
theorem mw_50 : (Jvm.Cond.fieldLink "java/util/ArrayList" (63 : Nat) "java/util/ArrayList" "modCount" "I") ∈ big := big_of 50 rfl (by decide +kernel)
theorem mw_51 : (Jvm.Cond.sameField "java/util/ArrayList" "java/util/AbstractList" "modCount" "I") ∈ big := big_of 51 rfl (by decide +kernel)
theorem mw_52 : (Jvm.Cond.lays "java/util/ArrayList" "java/util/ArrayList" "elementData" "[Ljava/lang/Object;") ∈ big := big_of 52 rfl (by decide +kernel)
theorem mw_54 : (Jvm.Cond.lays "java/util/ArrayList" "java/util/ArrayList" "size" "I") ∈ big := big_of 54 rfl (by decide +kernel)
theorem mw_56 : (Jvm.Cond.lays "java/util/ArrayList" "java/util/AbstractList" "modCount" "I") ∈ big := big_of 56 rfl (by decide +kernel)
theorem mw_59 : (Jvm.Cond.fieldLink "BoxDrawer" (10 : Nat) "BoxDrawer" "boxes" "Ljava/util/ArrayList;") ∈ big := big_of 59 rfl (by decide +kernel)
theorem mw_60 : (Jvm.Cond.fieldLink "BoxDrawer" (16 : Nat) "BoxDrawer" "found" "[I") ∈ big := big_of 60 rfl (by decide +kernel)
theorem mw_61 : (Jvm.Cond.fieldLink "BoxDrawer" (20 : Nat) "BoxDrawer" "foundCount" "I") ∈ big := big_of 61 rfl (by decide +kernel)
theorem mw_62 : (Jvm.Cond.fieldLink "BoxDrawer" (24 : Nat) "BoxDrawer" "foundDistances" "[J") ∈ big := big_of 62 rfl (by decide +kernel)
theorem mw_63 : (Jvm.Cond.laysFinal "BoxDrawer" "BoxDrawer" "boxes" "Ljava/util/ArrayList;") ∈ big := big_of 63 rfl (by decide +kernel)
theorem mw_65 : (Jvm.Cond.lays "BoxDrawer" "BoxDrawer" "found" "[I") ∈ big := big_of 65 rfl (by decide +kernel)
theorem mw_67 : (Jvm.Cond.lays "BoxDrawer" "BoxDrawer" "foundCount" "I") ∈ big := big_of 67 rfl (by decide +kernel)
theorem mw_69 : (Jvm.Cond.lays "BoxDrawer" "BoxDrawer" "foundDistances" "[J") ∈ big := big_of 69 rfl (by decide +kernel)
theorem mw_72 : (Jvm.Cond.arrayClass Jvm.ClassFile.FieldType.int) ∈ big := big_of 72 rfl (by decide +kernel)
theorem mw_73 : (Jvm.Cond.arrayClass Jvm.ClassFile.FieldType.long) ∈ big := big_of 73 rfl (by decide +kernel)
theorem mw_74 : (Jvm.Cond.methodLink "BoxDrawerLaw" (64 : Nat) ({ cls := "BoxDrawer", name := "clear", desc := "()I" } : Jvm.MethodName)) ∈ big := big_of 74 rfl (by decide +kernel)
theorem mw_75 : (Jvm.Cond.instanceMethod ({ cls := "BoxDrawer", name := "clear", desc := "()I" } : Jvm.MethodName)) ∈ big := big_of 75 rfl (by decide +kernel)
theorem mw_76 : (Jvm.Cond.selects "BoxDrawer" ({ cls := "BoxDrawer", name := "clear", desc := "()I" } : Jvm.MethodName) ({ cls := "BoxDrawer", name := "clear", desc := "()I" } : Jvm.MethodName)) ∈ big := big_of 76 rfl (by decide +kernel)
theorem mw_77 : (Jvm.Cond.code ({ cls := "BoxDrawer", name := "clear", desc := "()I" } : Jvm.MethodName) prog_1_method_4_code (2 : Nat) (Option.some Jvm.ClassFile.FieldType.int)) ∈ big := big_of 77 rfl (by decide +kernel)
theorem mw_78 : (Jvm.Cond.methodLink "BoxDrawer" (61 : Nat) ({ cls := "java/util/ArrayList", name := "size", desc := "()I" } : Jvm.MethodName)) ∈ big := big_of 78 rfl (by decide +kernel)
theorem mw_79 : (Jvm.Cond.instanceMethod ({ cls := "java/util/ArrayList", name := "size", desc := "()I" } : Jvm.MethodName)) ∈ big := big_of 79 rfl (by decide +kernel)
theorem mw_80 : (Jvm.Cond.selects "java/util/ArrayList" ({ cls := "java/util/ArrayList", name := "size", desc := "()I" } : Jvm.MethodName) ({ cls := "java/util/ArrayList", name := "size", desc := "()I" } : Jvm.MethodName)) ∈ big := big_of 80 rfl (by decide +kernel)
theorem mw_81 : (Jvm.Cond.code ({ cls := "java/util/ArrayList", name := "size", desc := "()I" } : Jvm.MethodName) prog_24_method_8_code (1 : Nat) (Option.some Jvm.ClassFile.FieldType.int)) ∈ big := big_of 81 rfl (by decide +kernel)
theorem mw_82 : (Jvm.Cond.methodLink "BoxDrawer" (65 : Nat) ({ cls := "java/util/ArrayList", name := "clear", desc := "()V" } : Jvm.MethodName)) ∈ big := big_of 82 rfl (by decide +kernel)
theorem mw_83 : (Jvm.Cond.instanceMethod ({ cls := "java/util/ArrayList", name := "clear", desc := "()V" } : Jvm.MethodName)) ∈ big := big_of 83 rfl (by decide +kernel)
theorem mw_84 : (Jvm.Cond.selects "java/util/ArrayList" ({ cls := "java/util/ArrayList", name := "clear", desc := "()V" } : Jvm.MethodName) ({ cls := "java/util/ArrayList", name := "clear", desc := "()V" } : Jvm.MethodName)) ∈ big := big_of 84 rfl (by decide +kernel)
theorem mw_85 : (Jvm.Cond.code ({ cls := "java/util/ArrayList", name := "clear", desc := "()V" } : Jvm.MethodName) prog_24_method_40_code (4 : Nat) (Option.none : Option Jvm.ClassFile.FieldType)) ∈ big := big_of 85 rfl (by decide +kernel)
theorem mw_86 : (Jvm.Cond.methodLink "BoxDrawerLaw" (75 : Nat) ({ cls := "BoxDrawer", name := "pairs", desc := "()I" } : Jvm.MethodName)) ∈ big := big_of 86 rfl (by decide +kernel)
theorem mw_87 : (Jvm.Cond.instanceMethod ({ cls := "BoxDrawer", name := "pairs", desc := "()I" } : Jvm.MethodName)) ∈ big := big_of 87 rfl (by decide +kernel)
theorem mw_88 : (Jvm.Cond.selects "BoxDrawer" ({ cls := "BoxDrawer", name := "pairs", desc := "()I" } : Jvm.MethodName) ({ cls := "BoxDrawer", name := "pairs", desc := "()I" } : Jvm.MethodName)) ∈ big := big_of 88 rfl (by decide +kernel)
theorem mw_89 : (Jvm.Cond.code ({ cls := "BoxDrawer", name := "pairs", desc := "()I" } : Jvm.MethodName) prog_1_method_7_code (6 : Nat) (Option.some Jvm.ClassFile.FieldType.int)) ∈ big := big_of 89 rfl (by decide +kernel)
theorem mw_90 : (Jvm.Cond.methodLink "BoxDrawer" (75 : Nat) ({ cls := "java/util/ArrayList", name := "get", desc := "(I)Ljava/lang/Object;" } : Jvm.MethodName)) ∈ big := big_of 90 rfl (by decide +kernel)
theorem mw_91 : (Jvm.Cond.instanceMethod ({ cls := "java/util/ArrayList", name := "get", desc := "(I)Ljava/lang/Object;" } : Jvm.MethodName)) ∈ big := big_of 91 rfl (by decide +kernel)
theorem mw_92 : (Jvm.Cond.selects "java/util/ArrayList" ({ cls := "java/util/ArrayList", name := "get", desc := "(I)Ljava/lang/Object;" } : Jvm.MethodName) ({ cls := "java/util/ArrayList", name := "get", desc := "(I)Ljava/lang/Object;" } : Jvm.MethodName)) ∈ big := big_of 92 rfl (by decide +kernel)
theorem mw_93 : (Jvm.Cond.code ({ cls := "java/util/ArrayList", name := "get", desc := "(I)Ljava/lang/Object;" } : Jvm.MethodName) prog_24_method_20_code (2 : Nat) (Option.some (Jvm.ClassFile.FieldType.object "java/lang/Object"))) ∈ big := big_of 93 rfl (by decide +kernel)
theorem mw_94 : (Jvm.Cond.methodLink "java/util/ArrayList" (118 : Nat) ({ cls := "java/util/Objects", name := "checkIndex", desc := "(II)I" } : Jvm.MethodName)) ∈ big := big_of 94 rfl (by decide +kernel)
theorem mw_95 : (Jvm.Cond.static ({ cls := "java/util/Objects", name := "checkIndex", desc := "(II)I" } : Jvm.MethodName)) ∈ big := big_of 95 rfl (by decide +kernel)
theorem mw_96 : (Jvm.Cond.code ({ cls := "java/util/Objects", name := "checkIndex", desc := "(II)I" } : Jvm.MethodName) prog_28_method_17_code (2 : Nat) (Option.some Jvm.ClassFile.FieldType.int)) ∈ big := big_of 96 rfl (by decide +kernel)
theorem mw_97 : (Jvm.Cond.methodLink "java/util/Objects" (105 : Nat) ({ cls := "jdk/internal/util/Preconditions", name := "checkIndex", desc := "(IILjava/util/function/BiFunction;)I" } : Jvm.MethodName)) ∈ big := big_of 97 rfl (by decide +kernel)
theorem mw_98 : (Jvm.Cond.static ({ cls := "jdk/internal/util/Preconditions", name := "checkIndex", desc := "(IILjava/util/function/BiFunction;)I" } : Jvm.MethodName)) ∈ big := big_of 98 rfl (by decide +kernel)
theorem mw_99 : (Jvm.Cond.code ({ cls := "jdk/internal/util/Preconditions", name := "checkIndex", desc := "(IILjava/util/function/BiFunction;)I" } : Jvm.MethodName) prog_32_method_11_code (3 : Nat) (Option.some Jvm.ClassFile.FieldType.int)) ∈ big := big_of 99 rfl (by decide +kernel)
theorem mw_100 : (Jvm.Cond.methodLink "java/util/ArrayList" (123 : Nat) ({ cls := "java/util/ArrayList", name := "elementData", desc := "(I)Ljava/lang/Object;" } : Jvm.MethodName)) ∈ big := big_of 100 rfl (by decide +kernel)
theorem mw_101 : (Jvm.Cond.instanceMethod ({ cls := "java/util/ArrayList", name := "elementData", desc := "(I)Ljava/lang/Object;" } : Jvm.MethodName)) ∈ big := big_of 101 rfl (by decide +kernel)
theorem mw_102 : (Jvm.Cond.selects "java/util/ArrayList" ({ cls := "java/util/ArrayList", name := "elementData", desc := "(I)Ljava/lang/Object;" } : Jvm.MethodName) ({ cls := "java/util/ArrayList", name := "elementData", desc := "(I)Ljava/lang/Object;" } : Jvm.MethodName)) ∈ big := big_of 102 rfl (by decide +kernel)
theorem mw_103 : (Jvm.Cond.code ({ cls := "java/util/ArrayList", name := "elementData", desc := "(I)Ljava/lang/Object;" } : Jvm.MethodName) prog_24_method_18_code (2 : Nat) (Option.some (Jvm.ClassFile.FieldType.object "java/lang/Object"))) ∈ big := big_of 103 rfl (by decide +kernel)
theorem mw_104 : (Jvm.Cond.classLink "BoxDrawer" (36 : Nat) "BoxDrawer$Box") ∈ big := big_of 104 rfl (by decide +kernel)
theorem mt_105 : (Jvm.Cond.methodLinkNest "BoxDrawer" (114 : Nat) ({ cls := "BoxDrawer$Box", name := "meets", desc := "(LBoxDrawer$Box;)Z" } : Jvm.MethodName) "BoxDrawer") ∈ lw_tbl := tab_of 105 rfl
theorem mw_107 : (Jvm.Cond.instanceMethod ({ cls := "BoxDrawer$Box", name := "meets", desc := "(LBoxDrawer$Box;)Z" } : Jvm.MethodName)) ∈ big := big_of 107 rfl (by decide +kernel)
theorem mw_108 : (Jvm.Cond.instantiable "BoxDrawer$Box" (5 : Nat)) ∈ big := big_of 108 rfl (by decide +kernel)
theorem mw_109 : (Jvm.Cond.code ({ cls := "BoxDrawer$Box", name := "meets", desc := "(LBoxDrawer$Box;)Z" } : Jvm.MethodName) prog_2_method_2_code (2 : Nat) (Option.some Jvm.ClassFile.FieldType.boolean)) ∈ big := big_of 109 rfl (by decide +kernel)
theorem mw_110 : (Jvm.Cond.methodLink "BoxDrawer" (85 : Nat) ({ cls := "BoxDrawer", name := "append", desc := "(I)V" } : Jvm.MethodName)) ∈ big := big_of 110 rfl (by decide +kernel)
theorem mw_112 : (Jvm.Cond.instanceMethod ({ cls := "BoxDrawer", name := "append", desc := "(I)V" } : Jvm.MethodName)) ∈ big := big_of 112 rfl (by decide +kernel)
theorem mw_113 : (Jvm.Cond.code ({ cls := "BoxDrawer", name := "append", desc := "(I)V" } : Jvm.MethodName) prog_1_method_22_code (2 : Nat) (Option.none : Option Jvm.ClassFile.FieldType)) ∈ big := big_of 113 rfl (by decide +kernel)
theorem mw_114 : (Jvm.Cond.methodLink "BoxDrawer" (100 : Nat) ({ cls := "BoxDrawer", name := "makeRoom", desc := "(I)V" } : Jvm.MethodName)) ∈ big := big_of 114 rfl (by decide +kernel)
theorem mw_116 : (Jvm.Cond.instanceMethod ({ cls := "BoxDrawer", name := "makeRoom", desc := "(I)V" } : Jvm.MethodName)) ∈ big := big_of 116 rfl (by decide +kernel)
theorem mw_117 : (Jvm.Cond.code ({ cls := "BoxDrawer", name := "makeRoom", desc := "(I)V" } : Jvm.MethodName) prog_1_method_23_code (3 : Nat) (Option.none : Option Jvm.ClassFile.FieldType)) ∈ big := big_of 117 rfl (by decide +kernel)
theorem mw_118 : (Jvm.Cond.methodLink "BoxDrawer" (141 : Nat) ({ cls := "java/lang/Math", name := "max", desc := "(II)I" } : Jvm.MethodName)) ∈ big := big_of 118 rfl (by decide +kernel)
theorem mw_119 : (Jvm.Cond.static ({ cls := "java/lang/Math", name := "max", desc := "(II)I" } : Jvm.MethodName)) ∈ big := big_of 119 rfl (by decide +kernel)
theorem mw_120 : (Jvm.Cond.code ({ cls := "java/lang/Math", name := "max", desc := "(II)I" } : Jvm.MethodName) prog_14_method_65_code (2 : Nat) (Option.some Jvm.ClassFile.FieldType.int)) ∈ big := big_of 120 rfl (by decide +kernel)
theorem mw_121 : (Jvm.Cond.methodLink "BoxDrawer" (94 : Nat) ({ cls := "java/lang/Math", name := "min", desc := "(II)I" } : Jvm.MethodName)) ∈ big := big_of 121 rfl (by decide +kernel)
theorem mw_122 : (Jvm.Cond.static ({ cls := "java/lang/Math", name := "min", desc := "(II)I" } : Jvm.MethodName)) ∈ big := big_of 122 rfl (by decide +kernel)
theorem mw_123 : (Jvm.Cond.code ({ cls := "java/lang/Math", name := "min", desc := "(II)I" } : Jvm.MethodName) prog_14_method_69_code (2 : Nat) (Option.some Jvm.ClassFile.FieldType.int)) ∈ big := big_of 123 rfl (by decide +kernel)
theorem mw_124 : (Jvm.Cond.methodLink "BoxDrawer" (164 : Nat) ({ cls := "java/util/Arrays", name := "copyOf", desc := "([II)[I" } : Jvm.MethodName)) ∈ big := big_of 124 rfl (by decide +kernel)
theorem mw_125 : (Jvm.Cond.static ({ cls := "java/util/Arrays", name := "copyOf", desc := "([II)[I" } : Jvm.MethodName)) ∈ big := big_of 125 rfl (by decide +kernel)
theorem mw_126 : (Jvm.Cond.code ({ cls := "java/util/Arrays", name := "copyOf", desc := "([II)[I" } : Jvm.MethodName) prog_25_method_123_code (3 : Nat) (Option.some (Jvm.ClassFile.FieldType.array Jvm.ClassFile.FieldType.int))) ∈ big := big_of 126 rfl (by decide +kernel)
theorem mw_127 : (Jvm.Cond.methodLink "java/util/Arrays" (316 : Nat) ({ cls := "[I", name := "clone", desc := "()Ljava/lang/Object;" } : Jvm.MethodName)) ∈ big := big_of 127 rfl (by decide +kernel)
theorem mw_128 : (Jvm.Cond.sameMethod "[I" "java/lang/Object" "clone" "()Ljava/lang/Object;") ∈ big := big_of 128 rfl (by decide +kernel)
theorem mw_129 : (Jvm.Cond.native ({ cls := "java/lang/Object", name := "clone", desc := "()Ljava/lang/Object;" } : Jvm.MethodName)) ∈ big := big_of 129 rfl (by decide +kernel)
theorem mw_130 : (Jvm.Cond.instanceMethod ({ cls := "java/lang/Object", name := "clone", desc := "()Ljava/lang/Object;" } : Jvm.MethodName)) ∈ big := big_of 130 rfl (by decide +kernel)
theorem mw_131 : (Jvm.Cond.selects "[I" ({ cls := "[I", name := "clone", desc := "()Ljava/lang/Object;" } : Jvm.MethodName) ({ cls := "java/lang/Object", name := "clone", desc := "()Ljava/lang/Object;" } : Jvm.MethodName)) ∈ big := big_of 131 rfl (by decide +kernel)
theorem mt_132 : (Jvm.Cond.castable "[I" "java/lang/Cloneable") ∈ lw_tbl := tab_of 132 rfl
theorem mw_133 : (Jvm.Cond.classLink "java/util/Arrays" (317 : Nat) "[I") ∈ big := big_of 133 rfl (by decide +kernel)
theorem mw_134 : (Jvm.Cond.methodLink "java/util/Arrays" (304 : Nat) ({ cls := "java/lang/Math", name := "min", desc := "(II)I" } : Jvm.MethodName)) ∈ big := big_of 134 rfl (by decide +kernel)
theorem mw_135 : (Jvm.Cond.methodLink "java/util/Arrays" (150 : Nat) ({ cls := "java/lang/System", name := "arraycopy", desc := "(Ljava/lang/Object;ILjava/lang/Object;II)V" } : Jvm.MethodName)) ∈ big := big_of 135 rfl (by decide +kernel)
theorem mw_136 : (Jvm.Cond.static ({ cls := "java/lang/System", name := "arraycopy", desc := "(Ljava/lang/Object;ILjava/lang/Object;II)V" } : Jvm.MethodName)) ∈ big := big_of 136 rfl (by decide +kernel)
theorem mw_137 : (Jvm.Cond.native ({ cls := "java/lang/System", name := "arraycopy", desc := "(Ljava/lang/Object;ILjava/lang/Object;II)V" } : Jvm.MethodName)) ∈ big := big_of 137 rfl (by decide +kernel)
theorem mw_138 : (Jvm.Cond.methodLink "BoxDrawerLaw" (92 : Nat) ({ cls := "BoxDrawer", name := "count", desc := "(I)I" } : Jvm.MethodName)) ∈ big := big_of 138 rfl (by decide +kernel)
theorem mw_139 : (Jvm.Cond.instanceMethod ({ cls := "BoxDrawer", name := "count", desc := "(I)I" } : Jvm.MethodName)) ∈ big := big_of 139 rfl (by decide +kernel)
theorem mw_140 : (Jvm.Cond.selects "BoxDrawer" ({ cls := "BoxDrawer", name := "count", desc := "(I)I" } : Jvm.MethodName) ({ cls := "BoxDrawer", name := "count", desc := "(I)I" } : Jvm.MethodName)) ∈ big := big_of 140 rfl (by decide +kernel)
theorem mw_141 : (Jvm.Cond.code ({ cls := "BoxDrawer", name := "count", desc := "(I)I" } : Jvm.MethodName) prog_1_method_12_code (2 : Nat) (Option.some Jvm.ClassFile.FieldType.int)) ∈ big := big_of 141 rfl (by decide +kernel)
theorem mw_142 : (Jvm.Cond.methodLink "BoxDrawerLaw" (50 : Nat) ({ cls := "BoxDrawerLaw", name := "put", desc := "(LBoxDrawer;IIIII[J)I" } : Jvm.MethodName)) ∈ big := big_of 142 rfl (by decide +kernel)
theorem mw_143 : (Jvm.Cond.static ({ cls := "BoxDrawerLaw", name := "put", desc := "(LBoxDrawer;IIIII[J)I" } : Jvm.MethodName)) ∈ big := big_of 143 rfl (by decide +kernel)
theorem mw_144 : (Jvm.Cond.codeWith ({ cls := "BoxDrawerLaw", name := "put", desc := "(LBoxDrawer;IIIII[J)I" } : Jvm.MethodName) method_3_code (8 : Nat) (Option.some Jvm.ClassFile.FieldType.int) [((0 : Nat), (23 : Nat), (26 : Nat), (13 : Nat)), ((0 : Nat), (23 : Nat), (30 : Nat), (15 : Nat))]) ∈ big := big_of 144 rfl (by decide +kernel)
theorem mw_145 : (Jvm.Cond.classLink "BoxDrawerLaw" (13 : Nat) "java/lang/IndexOutOfBoundsException") ∈ big := big_of 145 rfl (by decide +kernel)
theorem mw_146 : (Jvm.Cond.classLink "BoxDrawerLaw" (15 : Nat) "java/lang/IllegalArgumentException") ∈ big := big_of 146 rfl (by decide +kernel)
theorem mw_147 : (Jvm.Cond.methodLink "BoxDrawerLaw" (7 : Nat) ({ cls := "BoxDrawer", name := "put", desc := "(IIIII)Z" } : Jvm.MethodName)) ∈ big := big_of 147 rfl (by decide +kernel)
theorem mw_148 : (Jvm.Cond.instanceMethod ({ cls := "BoxDrawer", name := "put", desc := "(IIIII)Z" } : Jvm.MethodName)) ∈ big := big_of 148 rfl (by decide +kernel)
theorem mw_149 : (Jvm.Cond.selects "BoxDrawer" ({ cls := "BoxDrawer", name := "put", desc := "(IIIII)Z" } : Jvm.MethodName) ({ cls := "BoxDrawer", name := "put", desc := "(IIIII)Z" } : Jvm.MethodName)) ∈ big := big_of 149 rfl (by decide +kernel)
theorem mw_150 : (Jvm.Cond.code ({ cls := "BoxDrawer", name := "put", desc := "(IIIII)Z" } : Jvm.MethodName) prog_1_method_2_code (8 : Nat) (Option.some Jvm.ClassFile.FieldType.boolean)) ∈ big := big_of 150 rfl (by decide +kernel)
theorem mw_151 : (Jvm.Cond.methodLink "BoxDrawer" (28 : Nat) ({ cls := "BoxDrawer", name := "requireNumber", desc := "(I)V" } : Jvm.MethodName)) ∈ big := big_of 151 rfl (by decide +kernel)
theorem mw_152 : (Jvm.Cond.static ({ cls := "BoxDrawer", name := "requireNumber", desc := "(I)V" } : Jvm.MethodName)) ∈ big := big_of 152 rfl (by decide +kernel)
theorem mw_153 : (Jvm.Cond.code ({ cls := "BoxDrawer", name := "requireNumber", desc := "(I)V" } : Jvm.MethodName) prog_1_method_13_code (1 : Nat) (Option.none : Option Jvm.ClassFile.FieldType)) ∈ big := big_of 153 rfl (by decide +kernel)
theorem mw_154 : (Jvm.Cond.classLink "BoxDrawer" (144 : Nat) "java/lang/IndexOutOfBoundsException") ∈ big := big_of 154 rfl (by decide +kernel)
theorem mw_155 : (Jvm.Cond.instantiable "java/lang/IndexOutOfBoundsException" (6 : Nat)) ∈ big := big_of 155 rfl (by decide +kernel)
theorem mt_156 : (Jvm.Cond.castable "java/lang/IndexOutOfBoundsException" "java/lang/IndexOutOfBoundsException") ∈ lw_tbl := tab_of 156 rfl
theorem mt_157 : (Jvm.Cond.declares ({ cls := "java/lang/RuntimeException", name := "<init>", desc := "()V" } : Jvm.MethodName)) ∈ lw_tbl := tab_of 157 rfl
theorem mt_158 : (Jvm.Cond.declares ({ cls := "java/lang/RuntimeException", name := "<init>", desc := "(Ljava/lang/String;)V" } : Jvm.MethodName)) ∈ lw_tbl := tab_of 158 rfl
theorem mt_159 : (Jvm.Cond.declares ({ cls := "java/lang/Exception", name := "<init>", desc := "()V" } : Jvm.MethodName)) ∈ lw_tbl := tab_of 159 rfl
theorem mt_160 : (Jvm.Cond.declares ({ cls := "java/lang/Exception", name := "<init>", desc := "(Ljava/lang/String;)V" } : Jvm.MethodName)) ∈ lw_tbl := tab_of 160 rfl
theorem mt_161 : (Jvm.Cond.declares ({ cls := "java/lang/Throwable", name := "<init>", desc := "()V" } : Jvm.MethodName)) ∈ lw_tbl := tab_of 161 rfl
theorem mt_162 : (Jvm.Cond.declares ({ cls := "java/lang/Throwable", name := "<init>", desc := "(Ljava/lang/String;)V" } : Jvm.MethodName)) ∈ lw_tbl := tab_of 162 rfl
theorem mw_163 : (Jvm.Cond.selects "java/lang/IndexOutOfBoundsException" ({ cls := "java/lang/Throwable", name := "fillInStackTrace", desc := "(I)Ljava/lang/Throwable;" } : Jvm.MethodName) ({ cls := "java/lang/Throwable", name := "fillInStackTrace", desc := "(I)Ljava/lang/Throwable;" } : Jvm.MethodName)) ∈ big := big_of 163 rfl (by decide +kernel)
theorem mw_164 : (Jvm.Cond.selects "java/lang/IndexOutOfBoundsException" ({ cls := "java/lang/Throwable", name := "fillInStackTrace", desc := "()Ljava/lang/Throwable;" } : Jvm.MethodName) ({ cls := "java/lang/Throwable", name := "fillInStackTrace", desc := "()Ljava/lang/Throwable;" } : Jvm.MethodName)) ∈ big := big_of 164 rfl (by decide +kernel)
theorem mw_165 : (Jvm.Cond.lays "java/lang/IndexOutOfBoundsException" "java/lang/Throwable" "cause" "Ljava/lang/Throwable;") ∈ big := big_of 165 rfl (by decide +kernel)
theorem mw_166 : (Jvm.Cond.lays "java/lang/Throwable" "java/lang/Throwable" "cause" "Ljava/lang/Throwable;") ∈ big := big_of 166 rfl (by decide +kernel)
theorem mw_167 : (Jvm.Cond.lays "java/lang/IndexOutOfBoundsException" "java/lang/Throwable" "stackTrace" "[Ljava/lang/StackTraceElement;") ∈ big := big_of 167 rfl (by decide +kernel)
theorem mw_168 : (Jvm.Cond.lays "java/lang/Throwable" "java/lang/Throwable" "stackTrace" "[Ljava/lang/StackTraceElement;") ∈ big := big_of 168 rfl (by decide +kernel)
theorem mw_169 : (Jvm.Cond.lays "java/lang/IndexOutOfBoundsException" "java/lang/Throwable" "suppressedExceptions" "Ljava/util/List;") ∈ big := big_of 169 rfl (by decide +kernel)
theorem mw_170 : (Jvm.Cond.lays "java/lang/Throwable" "java/lang/Throwable" "suppressedExceptions" "Ljava/util/List;") ∈ big := big_of 170 rfl (by decide +kernel)
theorem mw_171 : (Jvm.Cond.lays "java/lang/IndexOutOfBoundsException" "java/lang/Throwable" "detailMessage" "Ljava/lang/String;") ∈ big := big_of 171 rfl (by decide +kernel)
theorem mw_172 : (Jvm.Cond.lays "java/lang/Throwable" "java/lang/Throwable" "detailMessage" "Ljava/lang/String;") ∈ big := big_of 172 rfl (by decide +kernel)
theorem mw_173 : (Jvm.Cond.lays "java/lang/IndexOutOfBoundsException" "java/lang/Throwable" "backtrace" "Ljava/lang/Object;") ∈ big := big_of 173 rfl (by decide +kernel)
theorem mw_174 : (Jvm.Cond.lays "java/lang/Throwable" "java/lang/Throwable" "backtrace" "Ljava/lang/Object;") ∈ big := big_of 174 rfl (by decide +kernel)
theorem mw_175 : (Jvm.Cond.fieldLink "java/lang/Throwable" (198 : Nat) "java/lang/Throwable" "backtrace" "Ljava/lang/Object;") ∈ big := big_of 175 rfl (by decide +kernel)
theorem mw_177 : (Jvm.Cond.instanceMethod ({ cls := "java/lang/Throwable", name := "<init>", desc := "()V" } : Jvm.MethodName)) ∈ big := big_of 177 rfl (by decide +kernel)
theorem mw_178 : (Jvm.Cond.code ({ cls := "java/lang/Throwable", name := "<init>", desc := "()V" } : Jvm.MethodName) prog_21_method_1_code (1 : Nat) (Option.none : Option Jvm.ClassFile.FieldType)) ∈ big := big_of 178 rfl (by decide +kernel)
theorem mw_179 : (Jvm.Cond.methodLink "java/lang/Throwable" (1 : Nat) ({ cls := "java/lang/Object", name := "<init>", desc := "()V" } : Jvm.MethodName)) ∈ big := big_of 179 rfl (by decide +kernel)
theorem mw_180 : (Jvm.Cond.fieldLink "java/lang/Throwable" (13 : Nat) "java/lang/Throwable" "UNASSIGNED_STACK" "[Ljava/lang/StackTraceElement;") ∈ big := big_of 180 rfl (by decide +kernel)
theorem mw_182 : (Jvm.Cond.fieldLink "java/lang/Throwable" (20 : Nat) "java/lang/Throwable" "SUPPRESSED_SENTINEL" "Ljava/util/List;") ∈ big := big_of 182 rfl (by decide +kernel)
theorem mw_184 : (Jvm.Cond.methodLink "java/lang/Throwable" (27 : Nat) ({ cls := "java/lang/Throwable", name := "fillInStackTrace", desc := "()Ljava/lang/Throwable;" } : Jvm.MethodName)) ∈ big := big_of 184 rfl (by decide +kernel)
theorem mw_185 : (Jvm.Cond.instanceMethod ({ cls := "java/lang/Throwable", name := "fillInStackTrace", desc := "()Ljava/lang/Throwable;" } : Jvm.MethodName)) ∈ big := big_of 185 rfl (by decide +kernel)
theorem mw_186 : (Jvm.Cond.sameMethod "java/lang/Throwable" "java/lang/Throwable" "fillInStackTrace" "()Ljava/lang/Throwable;") ∈ big := big_of 186 rfl (by decide +kernel)
theorem mw_187 : (Jvm.Cond.selects "java/lang/IllegalArgumentException" ({ cls := "java/lang/Throwable", name := "fillInStackTrace", desc := "()Ljava/lang/Throwable;" } : Jvm.MethodName) ({ cls := "java/lang/Throwable", name := "fillInStackTrace", desc := "()Ljava/lang/Throwable;" } : Jvm.MethodName)) ∈ big := big_of 187 rfl (by decide +kernel)
theorem mw_188 : (Jvm.Cond.selects "java/lang/IllegalStateException" ({ cls := "java/lang/Throwable", name := "fillInStackTrace", desc := "()Ljava/lang/Throwable;" } : Jvm.MethodName) ({ cls := "java/lang/Throwable", name := "fillInStackTrace", desc := "()Ljava/lang/Throwable;" } : Jvm.MethodName)) ∈ big := big_of 188 rfl (by decide +kernel)
theorem mw_190 : (Jvm.Cond.methodLink "java/lang/Throwable" (202 : Nat) ({ cls := "java/lang/Throwable", name := "fillInStackTrace", desc := "(I)Ljava/lang/Throwable;" } : Jvm.MethodName)) ∈ big := big_of 190 rfl (by decide +kernel)
theorem mw_192 : (Jvm.Cond.instanceMethod ({ cls := "java/lang/Throwable", name := "fillInStackTrace", desc := "(I)Ljava/lang/Throwable;" } : Jvm.MethodName)) ∈ big := big_of 192 rfl (by decide +kernel)
theorem mw_193 : (Jvm.Cond.instantiable "java/lang/Throwable" (6 : Nat)) ∈ big := big_of 193 rfl (by decide +kernel)
theorem mw_194 : (Jvm.Cond.native ({ cls := "java/lang/Throwable", name := "fillInStackTrace", desc := "(I)Ljava/lang/Throwable;" } : Jvm.MethodName)) ∈ big := big_of 194 rfl (by decide +kernel)
theorem mt_195 : (Jvm.Cond.stringRef "BoxDrawer" (149 : Nat) "no such number of a box") ∈ lw_tbl := tab_of 195 rfl
theorem mw_196 : (Jvm.Cond.methodLink "BoxDrawer" (148 : Nat) ({ cls := "java/lang/IndexOutOfBoundsException", name := "<init>", desc := "(Ljava/lang/String;)V" } : Jvm.MethodName)) ∈ big := big_of 196 rfl (by decide +kernel)
theorem mw_197 : (Jvm.Cond.instanceMethod ({ cls := "java/lang/IndexOutOfBoundsException", name := "<init>", desc := "(Ljava/lang/String;)V" } : Jvm.MethodName)) ∈ big := big_of 197 rfl (by decide +kernel)
theorem mw_198 : (Jvm.Cond.code ({ cls := "java/lang/IndexOutOfBoundsException", name := "<init>", desc := "(Ljava/lang/String;)V" } : Jvm.MethodName) prog_11_method_2_code (2 : Nat) (Option.none : Option Jvm.ClassFile.FieldType)) ∈ big := big_of 198 rfl (by decide +kernel)
theorem mw_199 : (Jvm.Cond.methodLink "java/lang/IndexOutOfBoundsException" (7 : Nat) ({ cls := "java/lang/RuntimeException", name := "<init>", desc := "(Ljava/lang/String;)V" } : Jvm.MethodName)) ∈ big := big_of 199 rfl (by decide +kernel)
theorem mw_200 : (Jvm.Cond.instanceMethod ({ cls := "java/lang/RuntimeException", name := "<init>", desc := "(Ljava/lang/String;)V" } : Jvm.MethodName)) ∈ big := big_of 200 rfl (by decide +kernel)
theorem mw_201 : (Jvm.Cond.code ({ cls := "java/lang/RuntimeException", name := "<init>", desc := "(Ljava/lang/String;)V" } : Jvm.MethodName) prog_15_method_2_code (2 : Nat) (Option.none : Option Jvm.ClassFile.FieldType)) ∈ big := big_of 201 rfl (by decide +kernel)
theorem mw_202 : (Jvm.Cond.methodLink "java/lang/RuntimeException" (7 : Nat) ({ cls := "java/lang/Exception", name := "<init>", desc := "(Ljava/lang/String;)V" } : Jvm.MethodName)) ∈ big := big_of 202 rfl (by decide +kernel)
theorem mw_203 : (Jvm.Cond.instanceMethod ({ cls := "java/lang/Exception", name := "<init>", desc := "(Ljava/lang/String;)V" } : Jvm.MethodName)) ∈ big := big_of 203 rfl (by decide +kernel)
theorem mw_204 : (Jvm.Cond.code ({ cls := "java/lang/Exception", name := "<init>", desc := "(Ljava/lang/String;)V" } : Jvm.MethodName) prog_8_method_2_code (2 : Nat) (Option.none : Option Jvm.ClassFile.FieldType)) ∈ big := big_of 204 rfl (by decide +kernel)
theorem mw_205 : (Jvm.Cond.methodLink "java/lang/Exception" (7 : Nat) ({ cls := "java/lang/Throwable", name := "<init>", desc := "(Ljava/lang/String;)V" } : Jvm.MethodName)) ∈ big := big_of 205 rfl (by decide +kernel)
theorem mw_206 : (Jvm.Cond.instanceMethod ({ cls := "java/lang/Throwable", name := "<init>", desc := "(Ljava/lang/String;)V" } : Jvm.MethodName)) ∈ big := big_of 206 rfl (by decide +kernel)
theorem mw_207 : (Jvm.Cond.code ({ cls := "java/lang/Throwable", name := "<init>", desc := "(Ljava/lang/String;)V" } : Jvm.MethodName) prog_21_method_2_code (2 : Nat) (Option.none : Option Jvm.ClassFile.FieldType)) ∈ big := big_of 207 rfl (by decide +kernel)
theorem mw_208 : (Jvm.Cond.fieldLink "java/lang/Throwable" (198 : Nat) "java/lang/Throwable" "backtrace" "Ljava/lang/Object;") ∈ big := big_of 208 rfl (by decide +kernel)
theorem mw_209 : (Jvm.Cond.fieldLink "java/lang/Throwable" (31 : Nat) "java/lang/Throwable" "detailMessage" "Ljava/lang/String;") ∈ big := big_of 209 rfl (by decide +kernel)
theorem mw_210 : (Jvm.Cond.fieldLink "java/lang/Throwable" (7 : Nat) "java/lang/Throwable" "cause" "Ljava/lang/Throwable;") ∈ big := big_of 210 rfl (by decide +kernel)
theorem mw_211 : (Jvm.Cond.fieldLink "java/lang/Throwable" (17 : Nat) "java/lang/Throwable" "stackTrace" "[Ljava/lang/StackTraceElement;") ∈ big := big_of 211 rfl (by decide +kernel)
theorem mw_212 : (Jvm.Cond.fieldLink "java/lang/Throwable" (24 : Nat) "java/lang/Throwable" "suppressedExceptions" "Ljava/util/List;") ∈ big := big_of 212 rfl (by decide +kernel)
theorem mw_217 : (Jvm.Cond.lays "java/lang/IndexOutOfBoundsException" "java/lang/Throwable" "depth" "I") ∈ big := big_of 217 rfl (by decide +kernel)
theorem mw_221 : (Jvm.Cond.arrayClass Jvm.ClassFile.FieldType.byte) ∈ big := big_of 221 rfl (by decide +kernel)
theorem mw_222 : (Jvm.Cond.methodLink "BoxDrawer" (32 : Nat) ({ cls := "BoxDrawer", name := "requireBounds", desc := "(IIII)V" } : Jvm.MethodName)) ∈ big := big_of 222 rfl (by decide +kernel)
theorem mw_223 : (Jvm.Cond.static ({ cls := "BoxDrawer", name := "requireBounds", desc := "(IIII)V" } : Jvm.MethodName)) ∈ big := big_of 223 rfl (by decide +kernel)
theorem mw_224 : (Jvm.Cond.code ({ cls := "BoxDrawer", name := "requireBounds", desc := "(IIII)V" } : Jvm.MethodName) prog_1_method_14_code (4 : Nat) (Option.none : Option Jvm.ClassFile.FieldType)) ∈ big := big_of 224 rfl (by decide +kernel)
theorem mw_225 : (Jvm.Cond.methodLink "BoxDrawer" (90 : Nat) ({ cls := "BoxDrawer", name := "requirePlace", desc := "(II)V" } : Jvm.MethodName)) ∈ big := big_of 225 rfl (by decide +kernel)
theorem mw_226 : (Jvm.Cond.static ({ cls := "BoxDrawer", name := "requirePlace", desc := "(II)V" } : Jvm.MethodName)) ∈ big := big_of 226 rfl (by decide +kernel)
theorem mw_227 : (Jvm.Cond.code ({ cls := "BoxDrawer", name := "requirePlace", desc := "(II)V" } : Jvm.MethodName) prog_1_method_15_code (2 : Nat) (Option.none : Option Jvm.ClassFile.FieldType)) ∈ big := big_of 227 rfl (by decide +kernel)
theorem mw_228 : (Jvm.Cond.constant "BoxDrawer" (153 : Nat) (-1000000000 : Int32)) ∈ big := big_of 228 rfl (by decide +kernel)
theorem mw_229 : (Jvm.Cond.constant "BoxDrawer" (154 : Nat) (1000000000 : Int32)) ∈ big := big_of 229 rfl (by decide +kernel)
theorem mw_230 : (Jvm.Cond.classLink "BoxDrawer" (68 : Nat) "java/lang/IllegalArgumentException") ∈ big := big_of 230 rfl (by decide +kernel)
theorem mw_231 : (Jvm.Cond.instantiable "java/lang/IllegalArgumentException" (6 : Nat)) ∈ big := big_of 231 rfl (by decide +kernel)
theorem mt_232 : (Jvm.Cond.castable "java/lang/IllegalArgumentException" "java/lang/IllegalArgumentException") ∈ lw_tbl := tab_of 232 rfl
theorem mw_233 : (Jvm.Cond.selects "java/lang/IllegalArgumentException" ({ cls := "java/lang/Throwable", name := "fillInStackTrace", desc := "(I)Ljava/lang/Throwable;" } : Jvm.MethodName) ({ cls := "java/lang/Throwable", name := "fillInStackTrace", desc := "(I)Ljava/lang/Throwable;" } : Jvm.MethodName)) ∈ big := big_of 233 rfl (by decide +kernel)
theorem mw_234 : (Jvm.Cond.lays "java/lang/IllegalArgumentException" "java/lang/Throwable" "cause" "Ljava/lang/Throwable;") ∈ big := big_of 234 rfl (by decide +kernel)
theorem mw_235 : (Jvm.Cond.lays "java/lang/IllegalArgumentException" "java/lang/Throwable" "stackTrace" "[Ljava/lang/StackTraceElement;") ∈ big := big_of 235 rfl (by decide +kernel)
theorem mw_236 : (Jvm.Cond.lays "java/lang/IllegalArgumentException" "java/lang/Throwable" "suppressedExceptions" "Ljava/util/List;") ∈ big := big_of 236 rfl (by decide +kernel)
theorem mw_237 : (Jvm.Cond.lays "java/lang/IllegalArgumentException" "java/lang/Throwable" "detailMessage" "Ljava/lang/String;") ∈ big := big_of 237 rfl (by decide +kernel)
theorem mw_238 : (Jvm.Cond.lays "java/lang/IllegalArgumentException" "java/lang/Throwable" "backtrace" "Ljava/lang/Object;") ∈ big := big_of 238 rfl (by decide +kernel)
theorem mt_239 : (Jvm.Cond.stringRef "BoxDrawer" (155 : Nat) "not from -1000000000 to 1000000000") ∈ lw_tbl := tab_of 239 rfl
theorem mw_240 : (Jvm.Cond.methodLink "BoxDrawer" (72 : Nat) ({ cls := "java/lang/IllegalArgumentException", name := "<init>", desc := "(Ljava/lang/String;)V" } : Jvm.MethodName)) ∈ big := big_of 240 rfl (by decide +kernel)
theorem mw_241 : (Jvm.Cond.instanceMethod ({ cls := "java/lang/IllegalArgumentException", name := "<init>", desc := "(Ljava/lang/String;)V" } : Jvm.MethodName)) ∈ big := big_of 241 rfl (by decide +kernel)
theorem mw_242 : (Jvm.Cond.code ({ cls := "java/lang/IllegalArgumentException", name := "<init>", desc := "(Ljava/lang/String;)V" } : Jvm.MethodName) prog_9_method_2_code (2 : Nat) (Option.none : Option Jvm.ClassFile.FieldType)) ∈ big := big_of 242 rfl (by decide +kernel)
theorem mw_243 : (Jvm.Cond.methodLink "java/lang/IllegalArgumentException" (7 : Nat) ({ cls := "java/lang/RuntimeException", name := "<init>", desc := "(Ljava/lang/String;)V" } : Jvm.MethodName)) ∈ big := big_of 243 rfl (by decide +kernel)
theorem mw_244 : (Jvm.Cond.lays "java/lang/IllegalArgumentException" "java/lang/Throwable" "depth" "I") ∈ big := big_of 244 rfl (by decide +kernel)
theorem mt_246 : (Jvm.Cond.stringRef "BoxDrawer" (151 : Nat) "a greatest bound is below its least") ∈ lw_tbl := tab_of 246 rfl
theorem mt_247 : (Jvm.Cond.methodLinkNest "BoxDrawer" (38 : Nat) ({ cls := "BoxDrawer$Box", name := "<init>", desc := "(IIIII)V" } : Jvm.MethodName) "BoxDrawer") ∈ lw_tbl := tab_of 247 rfl
theorem mw_248 : (Jvm.Cond.instanceMethod ({ cls := "BoxDrawer$Box", name := "<init>", desc := "(IIIII)V" } : Jvm.MethodName)) ∈ big := big_of 248 rfl (by decide +kernel)
theorem mw_249 : (Jvm.Cond.code ({ cls := "BoxDrawer$Box", name := "<init>", desc := "(IIIII)V" } : Jvm.MethodName) prog_2_method_1_code (6 : Nat) (Option.none : Option Jvm.ClassFile.FieldType)) ∈ big := big_of 249 rfl (by decide +kernel)
theorem mw_250 : (Jvm.Cond.methodLink "BoxDrawer$Box" (3 : Nat) ({ cls := "java/lang/Object", name := "<init>", desc := "()V" } : Jvm.MethodName)) ∈ big := big_of 250 rfl (by decide +kernel)
theorem mw_251 : (Jvm.Cond.fieldLink "BoxDrawer$Box" (9 : Nat) "BoxDrawer$Box" "number" "I") ∈ big := big_of 251 rfl (by decide +kernel)
theorem mt_252 : (Jvm.Cond.fieldLinkNest "BoxDrawer" (82 : Nat) "BoxDrawer$Box" "number" "I" "BoxDrawer") ∈ lw_tbl := tab_of 252 rfl
theorem mw_253 : (Jvm.Cond.fieldLink "BoxDrawer$Box" (15 : Nat) "BoxDrawer$Box" "lowX" "I") ∈ big := big_of 253 rfl (by decide +kernel)
theorem mw_254 : (Jvm.Cond.fieldLink "BoxDrawer$Box" (18 : Nat) "BoxDrawer$Box" "lowY" "I") ∈ big := big_of 254 rfl (by decide +kernel)
theorem mw_255 : (Jvm.Cond.fieldLink "BoxDrawer$Box" (21 : Nat) "BoxDrawer$Box" "highX" "I") ∈ big := big_of 255 rfl (by decide +kernel)
theorem mw_256 : (Jvm.Cond.fieldLink "BoxDrawer$Box" (24 : Nat) "BoxDrawer$Box" "highY" "I") ∈ big := big_of 256 rfl (by decide +kernel)
theorem mw_257 : (Jvm.Cond.laysFinal "BoxDrawer$Box" "BoxDrawer$Box" "number" "I") ∈ big := big_of 257 rfl (by decide +kernel)
theorem mw_259 : (Jvm.Cond.laysFinal "BoxDrawer$Box" "BoxDrawer$Box" "lowX" "I") ∈ big := big_of 259 rfl (by decide +kernel)
theorem mw_261 : (Jvm.Cond.laysFinal "BoxDrawer$Box" "BoxDrawer$Box" "lowY" "I") ∈ big := big_of 261 rfl (by decide +kernel)
theorem mw_263 : (Jvm.Cond.laysFinal "BoxDrawer$Box" "BoxDrawer$Box" "highX" "I") ∈ big := big_of 263 rfl (by decide +kernel)
theorem mw_265 : (Jvm.Cond.laysFinal "BoxDrawer$Box" "BoxDrawer$Box" "highY" "I") ∈ big := big_of 265 rfl (by decide +kernel)
theorem mw_268 : (Jvm.Cond.methodLink "BoxDrawer" (41 : Nat) ({ cls := "BoxDrawer", name := "indexFor", desc := "(I)I" } : Jvm.MethodName)) ∈ big := big_of 268 rfl (by decide +kernel)
theorem mw_270 : (Jvm.Cond.instanceMethod ({ cls := "BoxDrawer", name := "indexFor", desc := "(I)I" } : Jvm.MethodName)) ∈ big := big_of 270 rfl (by decide +kernel)
theorem mw_271 : (Jvm.Cond.code ({ cls := "BoxDrawer", name := "indexFor", desc := "(I)I" } : Jvm.MethodName) prog_1_method_18_code (5 : Nat) (Option.some Jvm.ClassFile.FieldType.int)) ∈ big := big_of 271 rfl (by decide +kernel)
theorem mw_272 : (Jvm.Cond.methodLink "BoxDrawer" (45 : Nat) ({ cls := "BoxDrawer", name := "isAt", desc := "(II)Z" } : Jvm.MethodName)) ∈ big := big_of 272 rfl (by decide +kernel)
theorem mw_274 : (Jvm.Cond.instanceMethod ({ cls := "BoxDrawer", name := "isAt", desc := "(II)Z" } : Jvm.MethodName)) ∈ big := big_of 274 rfl (by decide +kernel)
theorem mw_275 : (Jvm.Cond.code ({ cls := "BoxDrawer", name := "isAt", desc := "(II)Z" } : Jvm.MethodName) prog_1_method_19_code (3 : Nat) (Option.some Jvm.ClassFile.FieldType.boolean)) ∈ big := big_of 275 rfl (by decide +kernel)
theorem mw_276 : (Jvm.Cond.methodLink "BoxDrawer" (49 : Nat) ({ cls := "java/util/ArrayList", name := "set", desc := "(ILjava/lang/Object;)Ljava/lang/Object;" } : Jvm.MethodName)) ∈ big := big_of 276 rfl (by decide +kernel)
theorem mw_277 : (Jvm.Cond.instanceMethod ({ cls := "java/util/ArrayList", name := "set", desc := "(ILjava/lang/Object;)Ljava/lang/Object;" } : Jvm.MethodName)) ∈ big := big_of 277 rfl (by decide +kernel)
theorem mw_278 : (Jvm.Cond.selects "java/util/ArrayList" ({ cls := "java/util/ArrayList", name := "set", desc := "(ILjava/lang/Object;)Ljava/lang/Object;" } : Jvm.MethodName) ({ cls := "java/util/ArrayList", name := "set", desc := "(ILjava/lang/Object;)Ljava/lang/Object;" } : Jvm.MethodName)) ∈ big := big_of 278 rfl (by decide +kernel)
theorem mw_279 : (Jvm.Cond.code ({ cls := "java/util/ArrayList", name := "set", desc := "(ILjava/lang/Object;)Ljava/lang/Object;" } : Jvm.MethodName) prog_24_method_23_code (4 : Nat) (Option.some (Jvm.ClassFile.FieldType.object "java/lang/Object"))) ∈ big := big_of 279 rfl (by decide +kernel)
theorem mw_280 : (Jvm.Cond.methodLink "BoxDrawer" (53 : Nat) ({ cls := "java/util/ArrayList", name := "add", desc := "(ILjava/lang/Object;)V" } : Jvm.MethodName)) ∈ big := big_of 280 rfl (by decide +kernel)
theorem mw_281 : (Jvm.Cond.instanceMethod ({ cls := "java/util/ArrayList", name := "add", desc := "(ILjava/lang/Object;)V" } : Jvm.MethodName)) ∈ big := big_of 281 rfl (by decide +kernel)
theorem mw_282 : (Jvm.Cond.selects "java/util/ArrayList" ({ cls := "java/util/ArrayList", name := "add", desc := "(ILjava/lang/Object;)V" } : Jvm.MethodName) ({ cls := "java/util/ArrayList", name := "add", desc := "(ILjava/lang/Object;)V" } : Jvm.MethodName)) ∈ big := big_of 282 rfl (by decide +kernel)
theorem mw_283 : (Jvm.Cond.code ({ cls := "java/util/ArrayList", name := "add", desc := "(ILjava/lang/Object;)V" } : Jvm.MethodName) prog_24_method_26_code (5 : Nat) (Option.none : Option Jvm.ClassFile.FieldType)) ∈ big := big_of 283 rfl (by decide +kernel)
theorem mw_284 : (Jvm.Cond.methodLink "java/util/ArrayList" (135 : Nat) ({ cls := "java/util/ArrayList", name := "rangeCheckForAdd", desc := "(I)V" } : Jvm.MethodName)) ∈ big := big_of 284 rfl (by decide +kernel)
theorem mw_286 : (Jvm.Cond.instanceMethod ({ cls := "java/util/ArrayList", name := "rangeCheckForAdd", desc := "(I)V" } : Jvm.MethodName)) ∈ big := big_of 286 rfl (by decide +kernel)
theorem mw_287 : (Jvm.Cond.code ({ cls := "java/util/ArrayList", name := "rangeCheckForAdd", desc := "(I)V" } : Jvm.MethodName) prog_24_method_45_code (2 : Nat) (Option.none : Option Jvm.ClassFile.FieldType)) ∈ big := big_of 287 rfl (by decide +kernel)
theorem mw_288 : (Jvm.Cond.classLink "java/util/ArrayList" (187 : Nat) "java/lang/IndexOutOfBoundsException") ∈ big := big_of 288 rfl (by decide +kernel)
theorem mw_289 : (Jvm.Cond.methodLink "java/util/ArrayList" (198 : Nat) ({ cls := "java/util/ArrayList", name := "outOfBoundsMsg", desc := "(I)Ljava/lang/String;" } : Jvm.MethodName)) ∈ big := big_of 289 rfl (by decide +kernel)
theorem mw_291 : (Jvm.Cond.instanceMethod ({ cls := "java/util/ArrayList", name := "outOfBoundsMsg", desc := "(I)Ljava/lang/String;" } : Jvm.MethodName)) ∈ big := big_of 291 rfl (by decide +kernel)
theorem mw_292 : (Jvm.Cond.code ({ cls := "java/util/ArrayList", name := "outOfBoundsMsg", desc := "(I)Ljava/lang/String;" } : Jvm.MethodName) prog_24_method_46_code (2 : Nat) (Option.some (Jvm.ClassFile.FieldType.object "java/lang/String"))) ∈ big := big_of 292 rfl (by decide +kernel)
set_option maxRecDepth 20000 in
theorem mt_324 : (Jvm.Cond.stringRef "java/util/ArrayList" (201 : Nat) "Index: ") ∈ lw_tbl := tab_of 324 rfl
set_option maxRecDepth 20000 in
theorem mw_345 : (Jvm.Cond.static ({ cls := "jdk/internal/util/ArraysSupport", name := "newLength", desc := "(III)I" } : Jvm.MethodName)) ∈ big := big_of 345 rfl (by decide +kernel)
set_option maxRecDepth 20000 in
theorem mw_346 : (Jvm.Cond.code ({ cls := "jdk/internal/util/ArraysSupport", name := "newLength", desc := "(III)I" } : Jvm.MethodName) prog_31_method_27_code (4 : Nat) (Option.some Jvm.ClassFile.FieldType.int)) ∈ big := big_of 346 rfl (by decide +kernel)
set_option maxRecDepth 20000 in
theorem mw_347 : (Jvm.Cond.methodLink "jdk/internal/util/ArraysSupport" (194 : Nat) ({ cls := "java/lang/Math", name := "max", desc := "(II)I" } : Jvm.MethodName)) ∈ big := big_of 347 rfl (by decide +kernel)
set_option maxRecDepth 20000 in
theorem mw_348 : (Jvm.Cond.constant "jdk/internal/util/ArraysSupport" (200 : Nat) (2147483639 : Int32)) ∈ big := big_of 348 rfl (by decide +kernel)
set_option maxRecDepth 20000 in
theorem mw_349 : (Jvm.Cond.methodLink "jdk/internal/util/ArraysSupport" (201 : Nat) ({ cls := "jdk/internal/util/ArraysSupport", name := "hugeLength", desc := "(II)I" } : Jvm.MethodName)) ∈ big := big_of 349 rfl (by decide +kernel)
set_option maxRecDepth 20000 in
theorem mw_350 : (Jvm.Cond.static ({ cls := "jdk/internal/util/ArraysSupport", name := "hugeLength", desc := "(II)I" } : Jvm.MethodName)) ∈ big := big_of 350 rfl (by decide +kernel)
set_option maxRecDepth 20000 in
theorem mw_351 : (Jvm.Cond.code ({ cls := "jdk/internal/util/ArraysSupport", name := "hugeLength", desc := "(II)I" } : Jvm.MethodName) prog_31_method_28_code (3 : Nat) (Option.some Jvm.ClassFile.FieldType.int)) ∈ big := big_of 351 rfl (by decide +kernel)
set_option maxRecDepth 20000 in
theorem mw_354 : (Jvm.Cond.static ({ cls := "java/util/Arrays", name := "copyOf", desc := "([BI)[B" } : Jvm.MethodName)) ∈ big := big_of 354 rfl (by decide +kernel)
set_option maxRecDepth 20000 in
theorem mw_355 : (Jvm.Cond.code ({ cls := "java/util/Arrays", name := "copyOf", desc := "([BI)[B" } : Jvm.MethodName) prog_25_method_121_code (3 : Nat) (Option.some (Jvm.ClassFile.FieldType.array Jvm.ClassFile.FieldType.byte))) ∈ big := big_of 355 rfl (by decide +kernel)
set_option maxRecDepth 20000 in
theorem mw_356 : (Jvm.Cond.methodLink "java/util/Arrays" (310 : Nat) ({ cls := "[B", name := "clone", desc := "()Ljava/lang/Object;" } : Jvm.MethodName)) ∈ big := big_of 356 rfl (by decide +kernel)
set_option maxRecDepth 20000 in
theorem mw_357 : (Jvm.Cond.sameMethod "[B" "java/lang/Object" "clone" "()Ljava/lang/Object;") ∈ big := big_of 357 rfl (by decide +kernel)
set_option maxRecDepth 20000 in
theorem mw_358 : (Jvm.Cond.selects "[B" ({ cls := "[B", name := "clone", desc := "()Ljava/lang/Object;" } : Jvm.MethodName) ({ cls := "java/lang/Object", name := "clone", desc := "()Ljava/lang/Object;" } : Jvm.MethodName)) ∈ big := big_of 358 rfl (by decide +kernel)
set_option maxRecDepth 20000 in
theorem mt_359 : (Jvm.Cond.castable "[B" "java/lang/Cloneable") ∈ lw_tbl := tab_of 359 rfl
set_option maxRecDepth 20000 in
theorem mw_360 : (Jvm.Cond.classLink "java/util/Arrays" (311 : Nat) "[B") ∈ big := big_of 360 rfl (by decide +kernel)
set_option maxRecDepth 20000 in
theorem mw_376 : (Jvm.Cond.static ({ cls := "java/lang/String", name := "checkBoundsBeginEnd", desc := "(III)V" } : Jvm.MethodName)) ∈ big := big_of 376 rfl (by decide +kernel)
set_option maxRecDepth 20000 in
theorem mw_377 : (Jvm.Cond.code ({ cls := "java/lang/String", name := "checkBoundsBeginEnd", desc := "(III)V" } : Jvm.MethodName) prog_16_method_158_code (3 : Nat) (Option.none : Option Jvm.ClassFile.FieldType)) ∈ big := big_of 377 rfl (by decide +kernel)
set_option maxRecDepth 20000 in
theorem mw_378 : (Jvm.Cond.fieldLink "java/lang/String" (1053 : Nat) "jdk/internal/util/Preconditions" "SIOOBE_FORMATTER" "Ljava/util/function/BiFunction;") ∈ big := big_of 378 rfl (by decide +kernel)
set_option maxRecDepth 20000 in
theorem mw_380 : (Jvm.Cond.methodLink "java/lang/String" (1062 : Nat) ({ cls := "jdk/internal/util/Preconditions", name := "checkFromToIndex", desc := "(IIILjava/util/function/BiFunction;)I" } : Jvm.MethodName)) ∈ big := big_of 380 rfl (by decide +kernel)
set_option maxRecDepth 20000 in
theorem mw_381 : (Jvm.Cond.static ({ cls := "jdk/internal/util/Preconditions", name := "checkFromToIndex", desc := "(IIILjava/util/function/BiFunction;)I" } : Jvm.MethodName)) ∈ big := big_of 381 rfl (by decide +kernel)
set_option maxRecDepth 20000 in
theorem mw_382 : (Jvm.Cond.code ({ cls := "jdk/internal/util/Preconditions", name := "checkFromToIndex", desc := "(IIILjava/util/function/BiFunction;)I" } : Jvm.MethodName) prog_32_method_12_code (4 : Nat) (Option.some Jvm.ClassFile.FieldType.int)) ∈ big := big_of 382 rfl (by decide +kernel)
set_option maxRecDepth 20000 in
theorem mw_393 : (Jvm.Cond.instanceMethod ({ cls := "java/lang/String", name := "length", desc := "()I" } : Jvm.MethodName)) ∈ big := big_of 393 rfl (by decide +kernel)
set_option maxRecDepth 20000 in
theorem mw_394 : (Jvm.Cond.selects "java/lang/String" ({ cls := "java/lang/String", name := "length", desc := "()I" } : Jvm.MethodName) ({ cls := "java/lang/String", name := "length", desc := "()I" } : Jvm.MethodName)) ∈ big := big_of 394 rfl (by decide +kernel)
set_option maxRecDepth 20000 in
theorem mw_395 : (Jvm.Cond.code ({ cls := "java/lang/String", name := "length", desc := "()I" } : Jvm.MethodName) prog_16_method_54_code (1 : Nat) (Option.some Jvm.ClassFile.FieldType.int)) ∈ big := big_of 395 rfl (by decide +kernel)
set_option maxRecDepth 20000 in
theorem mw_396 : (Jvm.Cond.methodLink "java/lang/String" (335 : Nat) ({ cls := "java/lang/String", name := "coder", desc := "()B" } : Jvm.MethodName)) ∈ big := big_of 396 rfl (by decide +kernel)
set_option maxRecDepth 20000 in
theorem mw_397 : (Jvm.Cond.instanceMethod ({ cls := "java/lang/String", name := "coder", desc := "()B" } : Jvm.MethodName)) ∈ big := big_of 397 rfl (by decide +kernel)
set_option maxRecDepth 20000 in
theorem mw_398 : (Jvm.Cond.selects "java/lang/String" ({ cls := "java/lang/String", name := "coder", desc := "()B" } : Jvm.MethodName) ({ cls := "java/lang/String", name := "coder", desc := "()B" } : Jvm.MethodName)) ∈ big := big_of 398 rfl (by decide +kernel)
set_option maxRecDepth 20000 in
theorem mw_399 : (Jvm.Cond.code ({ cls := "java/lang/String", name := "coder", desc := "()B" } : Jvm.MethodName) prog_16_method_152_code (1 : Nat) (Option.some Jvm.ClassFile.FieldType.byte)) ∈ big := big_of 399 rfl (by decide +kernel)
set_option maxRecDepth 20000 in
theorem mw_400 : (Jvm.Cond.fieldLink "java/lang/String" (38 : Nat) "java/lang/String" "COMPACT_STRINGS" "Z") ∈ big := big_of 400 rfl (by decide +kernel)
end
section
/-! the words by their places -/
set_option maxRecDepth 20000 in
theorem mw_424 : (Jvm.Cond.static ({ cls := "java/lang/String", name := "checkBoundsOffCount", desc := "(III)I" } : Jvm.MethodName)) ∈ big := big_of 424 rfl (by decide +kernel)
set_option maxRecDepth 20000 in
theorem mw_425 : (Jvm.Cond.code ({ cls := "java/lang/String", name := "checkBoundsOffCount", desc := "(III)I" } : Jvm.MethodName) prog_16_method_157_code (3 : Nat) (Option.some Jvm.ClassFile.FieldType.int)) ∈ big := big_of 425 rfl (by decide +kernel)
set_option maxRecDepth 20000 in
theorem mw_426 : (Jvm.Cond.methodLink "java/lang/String" (1065 : Nat) ({ cls := "jdk/internal/util/Preconditions", name := "checkFromIndexSize", desc := "(IIILjava/util/function/BiFunction;)I" } : Jvm.MethodName)) ∈ big := big_of 426 rfl (by decide +kernel)
set_option maxRecDepth 20000 in
theorem mw_427 : (Jvm.Cond.static ({ cls := "jdk/internal/util/Preconditions", name := "checkFromIndexSize", desc := "(IIILjava/util/function/BiFunction;)I" } : Jvm.MethodName)) ∈ big := big_of 427 rfl (by decide +kernel)
set_option maxRecDepth 20000 in
theorem mw_428 : (Jvm.Cond.code ({ cls := "jdk/internal/util/Preconditions", name := "checkFromIndexSize", desc := "(IIILjava/util/function/BiFunction;)I" } : Jvm.MethodName) prog_32_method_13_code (4 : Nat) (Option.some Jvm.ClassFile.FieldType.int)) ∈ big := big_of 428 rfl (by decide +kernel)
set_option maxRecDepth 20000 in
theorem mw_430 : (Jvm.Cond.instanceMethod ({ cls := "java/lang/String", name := "getBytes", desc := "([BIB)V" } : Jvm.MethodName)) ∈ big := big_of 430 rfl (by decide +kernel)
set_option maxRecDepth 20000 in
theorem mw_431 : (Jvm.Cond.selects "java/lang/String" ({ cls := "java/lang/String", name := "getBytes", desc := "([BIB)V" } : Jvm.MethodName) ({ cls := "java/lang/String", name := "getBytes", desc := "([BIB)V" } : Jvm.MethodName)) ∈ big := big_of 431 rfl (by decide +kernel)
set_option maxRecDepth 20000 in
theorem mw_432 : (Jvm.Cond.code ({ cls := "java/lang/String", name := "getBytes", desc := "([BIB)V" } : Jvm.MethodName) prog_16_method_147_code (4 : Nat) (Option.none : Option Jvm.ClassFile.FieldType)) ∈ big := big_of 432 rfl (by decide +kernel)
set_option maxRecDepth 20000 in
theorem mw_433 : (Jvm.Cond.methodLink "java/lang/String" (212 : Nat) ({ cls := "java/lang/System", name := "arraycopy", desc := "(Ljava/lang/Object;ILjava/lang/Object;II)V" } : Jvm.MethodName)) ∈ big := big_of 433 rfl (by decide +kernel)
set_option maxRecDepth 20000 in
theorem mt_460 : (Jvm.Cond.stringRef "java/util/ArrayList" (203 : Nat) ", Size: ") ∈ lw_tbl := tab_of 460 rfl
set_option maxRecDepth 20000 in
theorem mw_466 : (Jvm.Cond.instantiable "java/lang/String" (4 : Nat)) ∈ big := big_of 466 rfl (by decide +kernel)
set_option maxRecDepth 20000 in
theorem mw_473 : (Jvm.Cond.methodLink "java/lang/String" (1 : Nat) ({ cls := "java/lang/Object", name := "<init>", desc := "()V" } : Jvm.MethodName)) ∈ big := big_of 473 rfl (by decide +kernel)
set_option maxRecDepth 20000 in
theorem mw_488 : (Jvm.Cond.methodLink "java/lang/String" (54 : Nat) ({ cls := "java/util/Arrays", name := "copyOfRange", desc := "([BII)[B" } : Jvm.MethodName)) ∈ big := big_of 488 rfl (by decide +kernel)
set_option maxRecDepth 20000 in
theorem mw_489 : (Jvm.Cond.static ({ cls := "java/util/Arrays", name := "copyOfRange", desc := "([BII)[B" } : Jvm.MethodName)) ∈ big := big_of 489 rfl (by decide +kernel)
set_option maxRecDepth 20000 in
theorem mw_490 : (Jvm.Cond.code ({ cls := "java/util/Arrays", name := "copyOfRange", desc := "([BII)[B" } : Jvm.MethodName) prog_25_method_132_code (3 : Nat) (Option.some (Jvm.ClassFile.FieldType.array Jvm.ClassFile.FieldType.byte))) ∈ big := big_of 490 rfl (by decide +kernel)
set_option maxRecDepth 20000 in
theorem mw_491 : (Jvm.Cond.methodLink "java/util/Arrays" (339 : Nat) ({ cls := "java/util/Arrays", name := "copyOfRangeByte", desc := "([BII)[B" } : Jvm.MethodName)) ∈ big := big_of 491 rfl (by decide +kernel)
set_option maxRecDepth 20000 in
theorem mw_492 : (Jvm.Cond.static ({ cls := "java/util/Arrays", name := "copyOfRangeByte", desc := "([BII)[B" } : Jvm.MethodName)) ∈ big := big_of 492 rfl (by decide +kernel)
set_option maxRecDepth 20000 in
theorem mw_493 : (Jvm.Cond.code ({ cls := "java/util/Arrays", name := "copyOfRangeByte", desc := "([BII)[B" } : Jvm.MethodName) prog_25_method_133_code (5 : Nat) (Option.some (Jvm.ClassFile.FieldType.array Jvm.ClassFile.FieldType.byte))) ∈ big := big_of 493 rfl (by decide +kernel)
set_option maxRecDepth 20000 in
theorem mw_494 : (Jvm.Cond.methodLink "java/util/Arrays" (343 : Nat) ({ cls := "java/util/Arrays", name := "checkLength", desc := "(II)V" } : Jvm.MethodName)) ∈ big := big_of 494 rfl (by decide +kernel)
set_option maxRecDepth 20000 in
theorem mw_495 : (Jvm.Cond.static ({ cls := "java/util/Arrays", name := "checkLength", desc := "(II)V" } : Jvm.MethodName)) ∈ big := big_of 495 rfl (by decide +kernel)
set_option maxRecDepth 20000 in
theorem mw_496 : (Jvm.Cond.code ({ cls := "java/util/Arrays", name := "checkLength", desc := "(II)V" } : Jvm.MethodName) prog_25_method_131_code (2 : Nat) (Option.none : Option Jvm.ClassFile.FieldType)) ∈ big := big_of 496 rfl (by decide +kernel)
set_option maxRecDepth 20000 in
theorem mw_497 : (Jvm.Cond.classLink "java/util/Arrays" (43 : Nat) "java/lang/IllegalArgumentException") ∈ big := big_of 497 rfl (by decide +kernel)
set_option maxRecDepth 20000 in
theorem mt_501 : (Jvm.Cond.stringRef "java/util/Arrays" (337 : Nat) " > ") ∈ lw_tbl := tab_of 501 rfl
set_option maxRecDepth 20000 in
theorem mw_504 : (Jvm.Cond.methodLink "java/util/Arrays" (65 : Nat) ({ cls := "java/lang/IllegalArgumentException", name := "<init>", desc := "(Ljava/lang/String;)V" } : Jvm.MethodName)) ∈ big := big_of 504 rfl (by decide +kernel)
set_option maxRecDepth 20000 in
theorem mw_518 : (Jvm.Cond.fieldLink "java/lang/String" (9 : Nat) "java/lang/String" "value" "[B") ∈ big := big_of 518 rfl (by decide +kernel)
set_option maxRecDepth 20000 in
theorem mw_519 : (Jvm.Cond.fieldLink "java/lang/String" (15 : Nat) "java/lang/String" "coder" "B") ∈ big := big_of 519 rfl (by decide +kernel)
set_option maxRecDepth 20000 in
theorem mw_520 : (Jvm.Cond.laysFinal "java/lang/String" "java/lang/String" "value" "[B") ∈ big := big_of 520 rfl (by decide +kernel)
set_option maxRecDepth 20000 in
theorem mw_522 : (Jvm.Cond.laysFinal "java/lang/String" "java/lang/String" "coder" "B") ∈ big := big_of 522 rfl (by decide +kernel)
set_option maxRecDepth 20000 in
theorem mw_524 : (Jvm.Cond.lays "java/lang/String" "java/lang/String" "hash" "I") ∈ big := big_of 524 rfl (by decide +kernel)
set_option maxRecDepth 20000 in
theorem mw_526 : (Jvm.Cond.lays "java/lang/String" "java/lang/String" "hashIsZero" "Z") ∈ big := big_of 526 rfl (by decide +kernel)
set_option maxRecDepth 20000 in
theorem mw_529 : (Jvm.Cond.methodLink "java/util/ArrayList" (193 : Nat) ({ cls := "java/lang/IndexOutOfBoundsException", name := "<init>", desc := "(Ljava/lang/String;)V" } : Jvm.MethodName)) ∈ big := big_of 529 rfl (by decide +kernel)
set_option maxRecDepth 20000 in
theorem mw_530 : (Jvm.Cond.methodLink "java/util/ArrayList" (129 : Nat) ({ cls := "java/util/ArrayList", name := "grow", desc := "()[Ljava/lang/Object;" } : Jvm.MethodName)) ∈ big := big_of 530 rfl (by decide +kernel)
set_option maxRecDepth 20000 in
theorem mw_532 : (Jvm.Cond.instanceMethod ({ cls := "java/util/ArrayList", name := "grow", desc := "()[Ljava/lang/Object;" } : Jvm.MethodName)) ∈ big := big_of 532 rfl (by decide +kernel)
set_option maxRecDepth 20000 in
theorem mw_533 : (Jvm.Cond.code ({ cls := "java/util/ArrayList", name := "grow", desc := "()[Ljava/lang/Object;" } : Jvm.MethodName) prog_24_method_7_code (1 : Nat) (Option.some (Jvm.ClassFile.FieldType.array (Jvm.ClassFile.FieldType.object "java/lang/Object")))) ∈ big := big_of 533 rfl (by decide +kernel)
set_option maxRecDepth 20000 in
theorem mw_534 : (Jvm.Cond.methodLink "java/util/ArrayList" (69 : Nat) ({ cls := "java/util/ArrayList", name := "grow", desc := "(I)[Ljava/lang/Object;" } : Jvm.MethodName)) ∈ big := big_of 534 rfl (by decide +kernel)
set_option maxRecDepth 20000 in
theorem mw_536 : (Jvm.Cond.instanceMethod ({ cls := "java/util/ArrayList", name := "grow", desc := "(I)[Ljava/lang/Object;" } : Jvm.MethodName)) ∈ big := big_of 536 rfl (by decide +kernel)
set_option maxRecDepth 20000 in
theorem mw_537 : (Jvm.Cond.code ({ cls := "java/util/ArrayList", name := "grow", desc := "(I)[Ljava/lang/Object;" } : Jvm.MethodName) prog_24_method_6_code (4 : Nat) (Option.some (Jvm.ClassFile.FieldType.array (Jvm.ClassFile.FieldType.object "java/lang/Object")))) ∈ big := big_of 537 rfl (by decide +kernel)
set_option maxRecDepth 20000 in
theorem mw_538 : (Jvm.Cond.methodLink "java/util/ArrayList" (73 : Nat) ({ cls := "jdk/internal/util/ArraysSupport", name := "newLength", desc := "(III)I" } : Jvm.MethodName)) ∈ big := big_of 538 rfl (by decide +kernel)
set_option maxRecDepth 20000 in
theorem mw_539 : (Jvm.Cond.methodLink "java/util/ArrayList" (66 : Nat) ({ cls := "java/util/Arrays", name := "copyOf", desc := "([Ljava/lang/Object;I)[Ljava/lang/Object;" } : Jvm.MethodName)) ∈ big := big_of 539 rfl (by decide +kernel)
set_option maxRecDepth 20000 in
theorem mw_540 : (Jvm.Cond.static ({ cls := "java/util/Arrays", name := "copyOf", desc := "([Ljava/lang/Object;I)[Ljava/lang/Object;" } : Jvm.MethodName)) ∈ big := big_of 540 rfl (by decide +kernel)
set_option maxRecDepth 20000 in
theorem mw_541 : (Jvm.Cond.code ({ cls := "java/util/Arrays", name := "copyOf", desc := "([Ljava/lang/Object;I)[Ljava/lang/Object;" } : Jvm.MethodName) prog_25_method_119_code (2 : Nat) (Option.some (Jvm.ClassFile.FieldType.array (Jvm.ClassFile.FieldType.object "java/lang/Object")))) ∈ big := big_of 541 rfl (by decide +kernel)
set_option maxRecDepth 20000 in
theorem mw_542 : (Jvm.Cond.methodLink "java/util/Arrays" (86 : Nat) ({ cls := "java/lang/Object", name := "getClass", desc := "()Ljava/lang/Class;" } : Jvm.MethodName)) ∈ big := big_of 542 rfl (by decide +kernel)
set_option maxRecDepth 20000 in
theorem mw_543 : (Jvm.Cond.instanceMethod ({ cls := "java/lang/Object", name := "getClass", desc := "()Ljava/lang/Class;" } : Jvm.MethodName)) ∈ big := big_of 543 rfl (by decide +kernel)
set_option maxRecDepth 20000 in
theorem mw_544 : (Jvm.Cond.sameMethod "java/lang/Object" "java/lang/Object" "getClass" "()Ljava/lang/Class;") ∈ big := big_of 544 rfl (by decide +kernel)
set_option maxRecDepth 20000 in
theorem mw_545 : (Jvm.Cond.selects "BoxDrawer" ({ cls := "java/lang/Object", name := "getClass", desc := "()Ljava/lang/Class;" } : Jvm.MethodName) ({ cls := "java/lang/Object", name := "getClass", desc := "()Ljava/lang/Class;" } : Jvm.MethodName)) ∈ big := big_of 545 rfl (by decide +kernel)
set_option maxRecDepth 20000 in
theorem mw_546 : (Jvm.Cond.selects "BoxDrawer$Box" ({ cls := "java/lang/Object", name := "getClass", desc := "()Ljava/lang/Class;" } : Jvm.MethodName) ({ cls := "java/lang/Object", name := "getClass", desc := "()Ljava/lang/Class;" } : Jvm.MethodName)) ∈ big := big_of 546 rfl (by decide +kernel)
set_option maxRecDepth 20000 in
theorem mw_547 : (Jvm.Cond.selects "BoxDrawerModel" ({ cls := "java/lang/Object", name := "getClass", desc := "()Ljava/lang/Class;" } : Jvm.MethodName) ({ cls := "java/lang/Object", name := "getClass", desc := "()Ljava/lang/Class;" } : Jvm.MethodName)) ∈ big := big_of 547 rfl (by decide +kernel)
set_option maxRecDepth 20000 in
theorem mw_548 : (Jvm.Cond.selects "java/lang/IllegalArgumentException" ({ cls := "java/lang/Object", name := "getClass", desc := "()Ljava/lang/Class;" } : Jvm.MethodName) ({ cls := "java/lang/Object", name := "getClass", desc := "()Ljava/lang/Class;" } : Jvm.MethodName)) ∈ big := big_of 548 rfl (by decide +kernel)
set_option maxRecDepth 20000 in
theorem mw_549 : (Jvm.Cond.selects "java/lang/IllegalStateException" ({ cls := "java/lang/Object", name := "getClass", desc := "()Ljava/lang/Class;" } : Jvm.MethodName) ({ cls := "java/lang/Object", name := "getClass", desc := "()Ljava/lang/Class;" } : Jvm.MethodName)) ∈ big := big_of 549 rfl (by decide +kernel)
set_option maxRecDepth 20000 in
theorem mw_550 : (Jvm.Cond.selects "java/lang/IndexOutOfBoundsException" ({ cls := "java/lang/Object", name := "getClass", desc := "()Ljava/lang/Class;" } : Jvm.MethodName) ({ cls := "java/lang/Object", name := "getClass", desc := "()Ljava/lang/Class;" } : Jvm.MethodName)) ∈ big := big_of 550 rfl (by decide +kernel)
set_option maxRecDepth 20000 in
theorem mw_551 : (Jvm.Cond.selects "java/lang/String" ({ cls := "java/lang/Object", name := "getClass", desc := "()Ljava/lang/Class;" } : Jvm.MethodName) ({ cls := "java/lang/Object", name := "getClass", desc := "()Ljava/lang/Class;" } : Jvm.MethodName)) ∈ big := big_of 551 rfl (by decide +kernel)
set_option maxRecDepth 20000 in
theorem mw_553 : (Jvm.Cond.selects "java/util/ArrayList" ({ cls := "java/lang/Object", name := "getClass", desc := "()Ljava/lang/Class;" } : Jvm.MethodName) ({ cls := "java/lang/Object", name := "getClass", desc := "()Ljava/lang/Class;" } : Jvm.MethodName)) ∈ big := big_of 553 rfl (by decide +kernel)
set_option maxRecDepth 20000 in
theorem mw_554 : (Jvm.Cond.native ({ cls := "java/lang/Object", name := "getClass", desc := "()Ljava/lang/Class;" } : Jvm.MethodName)) ∈ big := big_of 554 rfl (by decide +kernel)
set_option maxRecDepth 20000 in
theorem mw_555 : (Jvm.Cond.methodLink "java/util/Arrays" (300 : Nat) ({ cls := "java/util/Arrays", name := "copyOf", desc := "([Ljava/lang/Object;ILjava/lang/Class;)[Ljava/lang/Object;" } : Jvm.MethodName)) ∈ big := big_of 555 rfl (by decide +kernel)
set_option maxRecDepth 20000 in
theorem mw_556 : (Jvm.Cond.static ({ cls := "java/util/Arrays", name := "copyOf", desc := "([Ljava/lang/Object;ILjava/lang/Class;)[Ljava/lang/Object;" } : Jvm.MethodName)) ∈ big := big_of 556 rfl (by decide +kernel)
set_option maxRecDepth 20000 in
theorem mw_557 : (Jvm.Cond.code ({ cls := "java/util/Arrays", name := "copyOf", desc := "([Ljava/lang/Object;ILjava/lang/Class;)[Ljava/lang/Object;" } : Jvm.MethodName) prog_25_method_120_code (4 : Nat) (Option.some (Jvm.ClassFile.FieldType.array (Jvm.ClassFile.FieldType.object "java/lang/Object")))) ∈ big := big_of 557 rfl (by decide +kernel)
set_option maxRecDepth 20000 in
theorem mw_558 : (Jvm.Cond.classLink "java/util/Arrays" (110 : Nat) "[Ljava/lang/Object;") ∈ big := big_of 558 rfl (by decide +kernel)
set_option maxRecDepth 20000 in
theorem mt_559 : (Jvm.Cond.arrayOver (Jvm.ClassFile.FieldType.object "java/lang/Object")) ∈ lw_tbl := tab_of 559 rfl
set_option maxRecDepth 20000 in
theorem mw_560 : (Jvm.Cond.classLink "java/util/Arrays" (2 : Nat) "java/lang/Object") ∈ big := big_of 560 rfl (by decide +kernel)
set_option maxRecDepth 20000 in
theorem mw_561 : (Jvm.Cond.methodLink "java/util/ArrayList" (79 : Nat) ({ cls := "java/lang/Math", name := "max", desc := "(II)I" } : Jvm.MethodName)) ∈ big := big_of 561 rfl (by decide +kernel)
set_option maxRecDepth 20000 in
theorem mw_562 : (Jvm.Cond.classLink "java/util/ArrayList" (7 : Nat) "java/lang/Object") ∈ big := big_of 562 rfl (by decide +kernel)
set_option maxRecDepth 20000 in
theorem mw_563 : (Jvm.Cond.methodLink "java/util/ArrayList" (112 : Nat) ({ cls := "java/lang/System", name := "arraycopy", desc := "(Ljava/lang/Object;ILjava/lang/Object;II)V" } : Jvm.MethodName)) ∈ big := big_of 563 rfl (by decide +kernel)
set_option maxRecDepth 20000 in
theorem mw_564 : (Jvm.Cond.methodLink "BoxDrawerLaw" (60 : Nat) ({ cls := "BoxDrawerLaw", name := "take", desc := "(LBoxDrawer;I[J)I" } : Jvm.MethodName)) ∈ big := big_of 564 rfl (by decide +kernel)
set_option maxRecDepth 20000 in
theorem mw_565 : (Jvm.Cond.static ({ cls := "BoxDrawerLaw", name := "take", desc := "(LBoxDrawer;I[J)I" } : Jvm.MethodName)) ∈ big := big_of 565 rfl (by decide +kernel)
set_option maxRecDepth 20000 in
theorem mw_566 : (Jvm.Cond.codeWith ({ cls := "BoxDrawerLaw", name := "take", desc := "(LBoxDrawer;I[J)I" } : Jvm.MethodName) method_4_code (4 : Nat) (Option.some Jvm.ClassFile.FieldType.int) [((0 : Nat), (16 : Nat), (19 : Nat), (13 : Nat))]) ∈ big := big_of 566 rfl (by decide +kernel)
set_option maxRecDepth 20000 in
theorem mw_567 : (Jvm.Cond.methodLink "BoxDrawerLaw" (17 : Nat) ({ cls := "BoxDrawer", name := "take", desc := "(I)Z" } : Jvm.MethodName)) ∈ big := big_of 567 rfl (by decide +kernel)
set_option maxRecDepth 20000 in
theorem mw_568 : (Jvm.Cond.instanceMethod ({ cls := "BoxDrawer", name := "take", desc := "(I)Z" } : Jvm.MethodName)) ∈ big := big_of 568 rfl (by decide +kernel)
set_option maxRecDepth 20000 in
theorem mw_569 : (Jvm.Cond.selects "BoxDrawer" ({ cls := "BoxDrawer", name := "take", desc := "(I)Z" } : Jvm.MethodName) ({ cls := "BoxDrawer", name := "take", desc := "(I)Z" } : Jvm.MethodName)) ∈ big := big_of 569 rfl (by decide +kernel)
set_option maxRecDepth 20000 in
theorem mw_570 : (Jvm.Cond.code ({ cls := "BoxDrawer", name := "take", desc := "(I)Z" } : Jvm.MethodName) prog_1_method_3_code (3 : Nat) (Option.some Jvm.ClassFile.FieldType.boolean)) ∈ big := big_of 570 rfl (by decide +kernel)
set_option maxRecDepth 20000 in
theorem mw_571 : (Jvm.Cond.methodLink "BoxDrawer" (57 : Nat) ({ cls := "java/util/ArrayList", name := "remove", desc := "(I)Ljava/lang/Object;" } : Jvm.MethodName)) ∈ big := big_of 571 rfl (by decide +kernel)
set_option maxRecDepth 20000 in
theorem mw_572 : (Jvm.Cond.instanceMethod ({ cls := "java/util/ArrayList", name := "remove", desc := "(I)Ljava/lang/Object;" } : Jvm.MethodName)) ∈ big := big_of 572 rfl (by decide +kernel)
set_option maxRecDepth 20000 in
theorem mw_573 : (Jvm.Cond.selects "java/util/ArrayList" ({ cls := "java/util/ArrayList", name := "remove", desc := "(I)Ljava/lang/Object;" } : Jvm.MethodName) ({ cls := "java/util/ArrayList", name := "remove", desc := "(I)Ljava/lang/Object;" } : Jvm.MethodName)) ∈ big := big_of 573 rfl (by decide +kernel)
set_option maxRecDepth 20000 in
theorem mw_574 : (Jvm.Cond.code ({ cls := "java/util/ArrayList", name := "remove", desc := "(I)Ljava/lang/Object;" } : Jvm.MethodName) prog_24_method_29_code (4 : Nat) (Option.some (Jvm.ClassFile.FieldType.object "java/lang/Object"))) ∈ big := big_of 574 rfl (by decide +kernel)
set_option maxRecDepth 20000 in
theorem mw_575 : (Jvm.Cond.methodLink "java/util/ArrayList" (144 : Nat) ({ cls := "java/util/ArrayList", name := "fastRemove", desc := "([Ljava/lang/Object;I)V" } : Jvm.MethodName)) ∈ big := big_of 575 rfl (by decide +kernel)
set_option maxRecDepth 20000 in
theorem mw_577 : (Jvm.Cond.instanceMethod ({ cls := "java/util/ArrayList", name := "fastRemove", desc := "([Ljava/lang/Object;I)V" } : Jvm.MethodName)) ∈ big := big_of 577 rfl (by decide +kernel)
set_option maxRecDepth 20000 in
theorem mw_578 : (Jvm.Cond.code ({ cls := "java/util/ArrayList", name := "fastRemove", desc := "([Ljava/lang/Object;I)V" } : Jvm.MethodName) prog_24_method_39_code (4 : Nat) (Option.none : Option Jvm.ClassFile.FieldType)) ∈ big := big_of 578 rfl (by decide +kernel)
set_option maxRecDepth 20000 in
theorem mw_579 : (Jvm.Cond.methodLink "BoxDrawerLaw" (68 : Nat) ({ cls := "BoxDrawerLaw", name := "find", desc := "(LBoxDrawer;IIIII[J)I" } : Jvm.MethodName)) ∈ big := big_of 579 rfl (by decide +kernel)
set_option maxRecDepth 20000 in
theorem mw_580 : (Jvm.Cond.static ({ cls := "BoxDrawerLaw", name := "find", desc := "(LBoxDrawer;IIIII[J)I" } : Jvm.MethodName)) ∈ big := big_of 580 rfl (by decide +kernel)
set_option maxRecDepth 20000 in
theorem mw_581 : (Jvm.Cond.codeWith ({ cls := "BoxDrawerLaw", name := "find", desc := "(LBoxDrawer;IIIII[J)I" } : Jvm.MethodName) method_5_code (8 : Nat) (Option.some Jvm.ClassFile.FieldType.int) [((0 : Nat), (16 : Nat), (19 : Nat), (15 : Nat))]) ∈ big := big_of 581 rfl (by decide +kernel)
set_option maxRecDepth 20000 in
theorem mw_582 : (Jvm.Cond.methodLink "BoxDrawerLaw" (21 : Nat) ({ cls := "BoxDrawer", name := "find", desc := "(IIIII)I" } : Jvm.MethodName)) ∈ big := big_of 582 rfl (by decide +kernel)
set_option maxRecDepth 20000 in
theorem mw_583 : (Jvm.Cond.instanceMethod ({ cls := "BoxDrawer", name := "find", desc := "(IIIII)I" } : Jvm.MethodName)) ∈ big := big_of 583 rfl (by decide +kernel)
set_option maxRecDepth 20000 in
theorem mw_584 : (Jvm.Cond.selects "BoxDrawer" ({ cls := "BoxDrawer", name := "find", desc := "(IIIII)I" } : Jvm.MethodName) ({ cls := "BoxDrawer", name := "find", desc := "(IIIII)I" } : Jvm.MethodName)) ∈ big := big_of 584 rfl (by decide +kernel)
set_option maxRecDepth 20000 in
theorem mw_585 : (Jvm.Cond.code ({ cls := "BoxDrawer", name := "find", desc := "(IIIII)I" } : Jvm.MethodName) prog_1_method_5_code (9 : Nat) (Option.some Jvm.ClassFile.FieldType.int)) ∈ big := big_of 585 rfl (by decide +kernel)
set_option maxRecDepth 20000 in
theorem mt_586 : (Jvm.Cond.stringRef "BoxDrawer" (70 : Nat) "what is none of 0, 1, 2") ∈ lw_tbl := tab_of 586 rfl
set_option maxRecDepth 20000 in
theorem mw_587 : (Jvm.Cond.methodLink "BoxDrawer" (78 : Nat) ({ cls := "BoxDrawer", name := "fits", desc := "(ILBoxDrawer$Box;LBoxDrawer$Box;)Z" } : Jvm.MethodName)) ∈ big := big_of 587 rfl (by decide +kernel)
set_option maxRecDepth 20000 in
theorem mw_588 : (Jvm.Cond.static ({ cls := "BoxDrawer", name := "fits", desc := "(ILBoxDrawer$Box;LBoxDrawer$Box;)Z" } : Jvm.MethodName)) ∈ big := big_of 588 rfl (by decide +kernel)
set_option maxRecDepth 20000 in
theorem mw_589 : (Jvm.Cond.code ({ cls := "BoxDrawer", name := "fits", desc := "(ILBoxDrawer$Box;LBoxDrawer$Box;)Z" } : Jvm.MethodName) prog_1_method_21_code (3 : Nat) (Option.some Jvm.ClassFile.FieldType.boolean)) ∈ big := big_of 589 rfl (by decide +kernel)
set_option maxRecDepth 20000 in
theorem mt_590 : (Jvm.Cond.methodLinkNest "BoxDrawer" (161 : Nat) ({ cls := "BoxDrawer$Box", name := "liesIn", desc := "(LBoxDrawer$Box;)Z" } : Jvm.MethodName) "BoxDrawer") ∈ lw_tbl := tab_of 590 rfl
set_option maxRecDepth 20000 in
theorem mw_592 : (Jvm.Cond.instanceMethod ({ cls := "BoxDrawer$Box", name := "liesIn", desc := "(LBoxDrawer$Box;)Z" } : Jvm.MethodName)) ∈ big := big_of 592 rfl (by decide +kernel)
set_option maxRecDepth 20000 in
theorem mw_593 : (Jvm.Cond.code ({ cls := "BoxDrawer$Box", name := "liesIn", desc := "(LBoxDrawer$Box;)Z" } : Jvm.MethodName) prog_2_method_3_code (2 : Nat) (Option.some Jvm.ClassFile.FieldType.boolean)) ∈ big := big_of 593 rfl (by decide +kernel)
set_option maxRecDepth 20000 in
theorem mw_594 : (Jvm.Cond.methodLink "BoxDrawerLaw" (71 : Nat) ({ cls := "BoxDrawerLaw", name := "nearest", desc := "(LBoxDrawer;III[J)I" } : Jvm.MethodName)) ∈ big := big_of 594 rfl (by decide +kernel)
set_option maxRecDepth 20000 in
theorem mw_595 : (Jvm.Cond.static ({ cls := "BoxDrawerLaw", name := "nearest", desc := "(LBoxDrawer;III[J)I" } : Jvm.MethodName)) ∈ big := big_of 595 rfl (by decide +kernel)
set_option maxRecDepth 20000 in
theorem mw_596 : (Jvm.Cond.codeWith ({ cls := "BoxDrawerLaw", name := "nearest", desc := "(LBoxDrawer;III[J)I" } : Jvm.MethodName) method_6_code (6 : Nat) (Option.some Jvm.ClassFile.FieldType.int) [((0 : Nat), (12 : Nat), (15 : Nat), (15 : Nat))]) ∈ big := big_of 596 rfl (by decide +kernel)
set_option maxRecDepth 20000 in
theorem mw_597 : (Jvm.Cond.methodLink "BoxDrawerLaw" (25 : Nat) ({ cls := "BoxDrawer", name := "nearest", desc := "(III)I" } : Jvm.MethodName)) ∈ big := big_of 597 rfl (by decide +kernel)
set_option maxRecDepth 20000 in
theorem mw_598 : (Jvm.Cond.instanceMethod ({ cls := "BoxDrawer", name := "nearest", desc := "(III)I" } : Jvm.MethodName)) ∈ big := big_of 598 rfl (by decide +kernel)
set_option maxRecDepth 20000 in
theorem mw_599 : (Jvm.Cond.selects "BoxDrawer" ({ cls := "BoxDrawer", name := "nearest", desc := "(III)I" } : Jvm.MethodName) ({ cls := "BoxDrawer", name := "nearest", desc := "(III)I" } : Jvm.MethodName)) ∈ big := big_of 599 rfl (by decide +kernel)
set_option maxRecDepth 20000 in
theorem mw_600 : (Jvm.Cond.code ({ cls := "BoxDrawer", name := "nearest", desc := "(III)I" } : Jvm.MethodName) prog_1_method_6_code (7 : Nat) (Option.some Jvm.ClassFile.FieldType.int)) ∈ big := big_of 600 rfl (by decide +kernel)
set_option maxRecDepth 20000 in
theorem mt_601 : (Jvm.Cond.stringRef "BoxDrawer" (88 : Nat) "n is none of 1 .. 4096") ∈ lw_tbl := tab_of 601 rfl
set_option maxRecDepth 20000 in
theorem mw_602 : (Jvm.Cond.methodLink "BoxDrawer" (103 : Nat) ({ cls := "BoxDrawer", name := "makeRoomForDistances", desc := "()V" } : Jvm.MethodName)) ∈ big := big_of 602 rfl (by decide +kernel)
set_option maxRecDepth 20000 in
theorem mw_604 : (Jvm.Cond.instanceMethod ({ cls := "BoxDrawer", name := "makeRoomForDistances", desc := "()V" } : Jvm.MethodName)) ∈ big := big_of 604 rfl (by decide +kernel)
set_option maxRecDepth 20000 in
theorem mw_605 : (Jvm.Cond.code ({ cls := "BoxDrawer", name := "makeRoomForDistances", desc := "()V" } : Jvm.MethodName) prog_1_method_24_code (1 : Nat) (Option.none : Option Jvm.ClassFile.FieldType)) ∈ big := big_of 605 rfl (by decide +kernel)
set_option maxRecDepth 20000 in
theorem mt_606 : (Jvm.Cond.methodLinkNest "BoxDrawer" (106 : Nat) ({ cls := "BoxDrawer$Box", name := "distanceFrom", desc := "(II)J" } : Jvm.MethodName) "BoxDrawer") ∈ lw_tbl := tab_of 606 rfl
set_option maxRecDepth 20000 in
theorem mw_608 : (Jvm.Cond.instanceMethod ({ cls := "BoxDrawer$Box", name := "distanceFrom", desc := "(II)J" } : Jvm.MethodName)) ∈ big := big_of 608 rfl (by decide +kernel)
set_option maxRecDepth 20000 in
theorem mw_609 : (Jvm.Cond.code ({ cls := "BoxDrawer$Box", name := "distanceFrom", desc := "(II)J" } : Jvm.MethodName) prog_2_method_4_code (7 : Nat) (Option.some Jvm.ClassFile.FieldType.long)) ∈ big := big_of 609 rfl (by decide +kernel)
set_option maxRecDepth 20000 in
theorem mw_610 : (Jvm.Cond.methodLink "BoxDrawer$Box" (27 : Nat) ({ cls := "BoxDrawer$Box", name := "wayTo", desc := "(III)J" } : Jvm.MethodName)) ∈ big := big_of 610 rfl (by decide +kernel)
set_option maxRecDepth 20000 in
theorem mw_611 : (Jvm.Cond.static ({ cls := "BoxDrawer$Box", name := "wayTo", desc := "(III)J" } : Jvm.MethodName)) ∈ big := big_of 611 rfl (by decide +kernel)
set_option maxRecDepth 20000 in
theorem mw_612 : (Jvm.Cond.code ({ cls := "BoxDrawer$Box", name := "wayTo", desc := "(III)J" } : Jvm.MethodName) prog_2_method_5_code (3 : Nat) (Option.some Jvm.ClassFile.FieldType.long)) ∈ big := big_of 612 rfl (by decide +kernel)
set_option maxRecDepth 20000 in
theorem mw_613 : (Jvm.Cond.methodLink "BoxDrawer" (110 : Nat) ({ cls := "BoxDrawer", name := "insertByDistance", desc := "(IJI)V" } : Jvm.MethodName)) ∈ big := big_of 613 rfl (by decide +kernel)
set_option maxRecDepth 20000 in
theorem mw_615 : (Jvm.Cond.instanceMethod ({ cls := "BoxDrawer", name := "insertByDistance", desc := "(IJI)V" } : Jvm.MethodName)) ∈ big := big_of 615 rfl (by decide +kernel)
set_option maxRecDepth 20000 in
theorem mw_616 : (Jvm.Cond.code ({ cls := "BoxDrawer", name := "insertByDistance", desc := "(IJI)V" } : Jvm.MethodName) prog_1_method_25_code (7 : Nat) (Option.none : Option Jvm.ClassFile.FieldType)) ∈ big := big_of 616 rfl (by decide +kernel)
set_option maxRecDepth 20000 in
theorem mw_617 : (Jvm.Cond.methodLink "BoxDrawer" (170 : Nat) ({ cls := "BoxDrawer", name := "indexBehind", desc := "(J)I" } : Jvm.MethodName)) ∈ big := big_of 617 rfl (by decide +kernel)
set_option maxRecDepth 20000 in
theorem mw_619 : (Jvm.Cond.instanceMethod ({ cls := "BoxDrawer", name := "indexBehind", desc := "(J)I" } : Jvm.MethodName)) ∈ big := big_of 619 rfl (by decide +kernel)
set_option maxRecDepth 20000 in
theorem mw_620 : (Jvm.Cond.code ({ cls := "BoxDrawer", name := "indexBehind", desc := "(J)I" } : Jvm.MethodName) prog_1_method_26_code (6 : Nat) (Option.some Jvm.ClassFile.FieldType.int)) ∈ big := big_of 620 rfl (by decide +kernel)
set_option maxRecDepth 20000 in
theorem mw_621 : (Jvm.Cond.methodLink "BoxDrawer" (174 : Nat) ({ cls := "java/lang/System", name := "arraycopy", desc := "(Ljava/lang/Object;ILjava/lang/Object;II)V" } : Jvm.MethodName)) ∈ big := big_of 621 rfl (by decide +kernel)
set_option maxRecDepth 20000 in
theorem mw_622 : (Jvm.Cond.methodLink "BoxDrawerLaw" (79 : Nat) ({ cls := "BoxDrawerLaw", name := "distance", desc := "(LBoxDrawer;III[J)I" } : Jvm.MethodName)) ∈ big := big_of 622 rfl (by decide +kernel)
set_option maxRecDepth 20000 in
theorem mw_623 : (Jvm.Cond.static ({ cls := "BoxDrawerLaw", name := "distance", desc := "(LBoxDrawer;III[J)I" } : Jvm.MethodName)) ∈ big := big_of 623 rfl (by decide +kernel)
set_option maxRecDepth 20000 in
theorem mw_624 : (Jvm.Cond.codeWith ({ cls := "BoxDrawerLaw", name := "distance", desc := "(LBoxDrawer;III[J)I" } : Jvm.MethodName) method_7_code (6 : Nat) (Option.some Jvm.ClassFile.FieldType.int) [((0 : Nat), (11 : Nat), (14 : Nat), (13 : Nat)), ((0 : Nat), (11 : Nat), (18 : Nat), (15 : Nat))]) ∈ big := big_of 624 rfl (by decide +kernel)
set_option maxRecDepth 20000 in
theorem mw_625 : (Jvm.Cond.methodLink "BoxDrawerLaw" (29 : Nat) ({ cls := "BoxDrawer", name := "distance", desc := "(III)J" } : Jvm.MethodName)) ∈ big := big_of 625 rfl (by decide +kernel)
set_option maxRecDepth 20000 in
theorem mw_626 : (Jvm.Cond.instanceMethod ({ cls := "BoxDrawer", name := "distance", desc := "(III)J" } : Jvm.MethodName)) ∈ big := big_of 626 rfl (by decide +kernel)
set_option maxRecDepth 20000 in
theorem mw_627 : (Jvm.Cond.selects "BoxDrawer" ({ cls := "BoxDrawer", name := "distance", desc := "(III)J" } : Jvm.MethodName) ({ cls := "BoxDrawer", name := "distance", desc := "(III)J" } : Jvm.MethodName)) ∈ big := big_of 627 rfl (by decide +kernel)
set_option maxRecDepth 20000 in
theorem mw_628 : (Jvm.Cond.code ({ cls := "BoxDrawer", name := "distance", desc := "(III)J" } : Jvm.MethodName) prog_1_method_8_code (5 : Nat) (Option.some Jvm.ClassFile.FieldType.long)) ∈ big := big_of 628 rfl (by decide +kernel)
set_option maxRecDepth 20000 in
theorem mw_629 : (Jvm.Cond.methodLink "BoxDrawer" (118 : Nat) ({ cls := "BoxDrawer", name := "requireBox", desc := "(I)LBoxDrawer$Box;" } : Jvm.MethodName)) ∈ big := big_of 629 rfl (by decide +kernel)
set_option maxRecDepth 20000 in
theorem mw_631 : (Jvm.Cond.instanceMethod ({ cls := "BoxDrawer", name := "requireBox", desc := "(I)LBoxDrawer$Box;" } : Jvm.MethodName)) ∈ big := big_of 631 rfl (by decide +kernel)
set_option maxRecDepth 20000 in
theorem mw_632 : (Jvm.Cond.code ({ cls := "BoxDrawer", name := "requireBox", desc := "(I)LBoxDrawer$Box;" } : Jvm.MethodName) prog_1_method_17_code (3 : Nat) (Option.some (Jvm.ClassFile.FieldType.object "BoxDrawer$Box"))) ∈ big := big_of 632 rfl (by decide +kernel)
set_option maxRecDepth 20000 in
theorem mt_633 : (Jvm.Cond.stringRef "BoxDrawer" (159 : Nat) "the box is not there") ∈ lw_tbl := tab_of 633 rfl
set_option maxRecDepth 20000 in
theorem mw_634 : (Jvm.Cond.methodLink "BoxDrawerLaw" (82 : Nat) ({ cls := "BoxDrawerLaw", name := "bounds", desc := "(LBoxDrawer;I[J)I" } : Jvm.MethodName)) ∈ big := big_of 634 rfl (by decide +kernel)
set_option maxRecDepth 20000 in
theorem mw_635 : (Jvm.Cond.static ({ cls := "BoxDrawerLaw", name := "bounds", desc := "(LBoxDrawer;I[J)I" } : Jvm.MethodName)) ∈ big := big_of 635 rfl (by decide +kernel)
set_option maxRecDepth 20000 in
theorem mw_636 : (Jvm.Cond.codeWith ({ cls := "BoxDrawerLaw", name := "bounds", desc := "(LBoxDrawer;I[J)I" } : Jvm.MethodName) method_8_code (4 : Nat) (Option.some Jvm.ClassFile.FieldType.int) [((0 : Nat), (9 : Nat), (12 : Nat), (13 : Nat)), ((0 : Nat), (9 : Nat), (15 : Nat), (37 : Nat))]) ∈ big := big_of 636 rfl (by decide +kernel)
set_option maxRecDepth 20000 in
theorem mw_637 : (Jvm.Cond.classLink "BoxDrawerLaw" (37 : Nat) "java/lang/IllegalStateException") ∈ big := big_of 637 rfl (by decide +kernel)
set_option maxRecDepth 20000 in
theorem mw_638 : (Jvm.Cond.methodLink "BoxDrawerLaw" (33 : Nat) ({ cls := "BoxDrawer", name := "bounds", desc := "(I)I" } : Jvm.MethodName)) ∈ big := big_of 638 rfl (by decide +kernel)
set_option maxRecDepth 20000 in
theorem mw_639 : (Jvm.Cond.instanceMethod ({ cls := "BoxDrawer", name := "bounds", desc := "(I)I" } : Jvm.MethodName)) ∈ big := big_of 639 rfl (by decide +kernel)
set_option maxRecDepth 20000 in
theorem mw_640 : (Jvm.Cond.selects "BoxDrawer" ({ cls := "BoxDrawer", name := "bounds", desc := "(I)I" } : Jvm.MethodName) ({ cls := "BoxDrawer", name := "bounds", desc := "(I)I" } : Jvm.MethodName)) ∈ big := big_of 640 rfl (by decide +kernel)
set_option maxRecDepth 20000 in
theorem mw_641 : (Jvm.Cond.code ({ cls := "BoxDrawer", name := "bounds", desc := "(I)I" } : Jvm.MethodName) prog_1_method_9_code (5 : Nat) (Option.some Jvm.ClassFile.FieldType.int)) ∈ big := big_of 641 rfl (by decide +kernel)
set_option maxRecDepth 20000 in
theorem mw_642 : (Jvm.Cond.methodLink "BoxDrawer" (122 : Nat) ({ cls := "BoxDrawer", name := "requireBound", desc := "(I)V" } : Jvm.MethodName)) ∈ big := big_of 642 rfl (by decide +kernel)
set_option maxRecDepth 20000 in
theorem mw_643 : (Jvm.Cond.static ({ cls := "BoxDrawer", name := "requireBound", desc := "(I)V" } : Jvm.MethodName)) ∈ big := big_of 643 rfl (by decide +kernel)
set_option maxRecDepth 20000 in
theorem mw_644 : (Jvm.Cond.code ({ cls := "BoxDrawer", name := "requireBound", desc := "(I)V" } : Jvm.MethodName) prog_1_method_16_code (1 : Nat) (Option.none : Option Jvm.ClassFile.FieldType)) ∈ big := big_of 644 rfl (by decide +kernel)
set_option maxRecDepth 20000 in
theorem mt_645 : (Jvm.Cond.stringRef "BoxDrawer" (157 : Nat) "what is none of 0 .. 3") ∈ lw_tbl := tab_of 645 rfl
set_option maxRecDepth 20000 in
theorem mw_646 : (Jvm.Cond.methodLink "BoxDrawer" (125 : Nat) ({ cls := "java/util/ArrayList", name := "isEmpty", desc := "()Z" } : Jvm.MethodName)) ∈ big := big_of 646 rfl (by decide +kernel)
set_option maxRecDepth 20000 in
theorem mw_647 : (Jvm.Cond.instanceMethod ({ cls := "java/util/ArrayList", name := "isEmpty", desc := "()Z" } : Jvm.MethodName)) ∈ big := big_of 647 rfl (by decide +kernel)
set_option maxRecDepth 20000 in
theorem mw_648 : (Jvm.Cond.selects "java/util/ArrayList" ({ cls := "java/util/ArrayList", name := "isEmpty", desc := "()Z" } : Jvm.MethodName) ({ cls := "java/util/ArrayList", name := "isEmpty", desc := "()Z" } : Jvm.MethodName)) ∈ big := big_of 648 rfl (by decide +kernel)
set_option maxRecDepth 20000 in
theorem mw_649 : (Jvm.Cond.code ({ cls := "java/util/ArrayList", name := "isEmpty", desc := "()Z" } : Jvm.MethodName) prog_24_method_9_code (1 : Nat) (Option.some Jvm.ClassFile.FieldType.boolean)) ∈ big := big_of 649 rfl (by decide +kernel)
set_option maxRecDepth 20000 in
theorem mw_650 : (Jvm.Cond.classLink "BoxDrawer" (129 : Nat) "java/lang/IllegalStateException") ∈ big := big_of 650 rfl (by decide +kernel)
set_option maxRecDepth 20000 in
theorem mw_651 : (Jvm.Cond.instantiable "java/lang/IllegalStateException" (6 : Nat)) ∈ big := big_of 651 rfl (by decide +kernel)
set_option maxRecDepth 20000 in
theorem mt_652 : (Jvm.Cond.castable "java/lang/IllegalStateException" "java/lang/IllegalStateException") ∈ lw_tbl := tab_of 652 rfl
set_option maxRecDepth 20000 in
theorem mw_653 : (Jvm.Cond.selects "java/lang/IllegalStateException" ({ cls := "java/lang/Throwable", name := "fillInStackTrace", desc := "(I)Ljava/lang/Throwable;" } : Jvm.MethodName) ({ cls := "java/lang/Throwable", name := "fillInStackTrace", desc := "(I)Ljava/lang/Throwable;" } : Jvm.MethodName)) ∈ big := big_of 653 rfl (by decide +kernel)
set_option maxRecDepth 20000 in
theorem mw_654 : (Jvm.Cond.lays "java/lang/IllegalStateException" "java/lang/Throwable" "cause" "Ljava/lang/Throwable;") ∈ big := big_of 654 rfl (by decide +kernel)
set_option maxRecDepth 20000 in
theorem mw_655 : (Jvm.Cond.lays "java/lang/IllegalStateException" "java/lang/Throwable" "stackTrace" "[Ljava/lang/StackTraceElement;") ∈ big := big_of 655 rfl (by decide +kernel)
set_option maxRecDepth 20000 in
theorem mw_656 : (Jvm.Cond.lays "java/lang/IllegalStateException" "java/lang/Throwable" "suppressedExceptions" "Ljava/util/List;") ∈ big := big_of 656 rfl (by decide +kernel)
set_option maxRecDepth 20000 in
theorem mw_657 : (Jvm.Cond.lays "java/lang/IllegalStateException" "java/lang/Throwable" "detailMessage" "Ljava/lang/String;") ∈ big := big_of 657 rfl (by decide +kernel)
set_option maxRecDepth 20000 in
theorem mw_658 : (Jvm.Cond.lays "java/lang/IllegalStateException" "java/lang/Throwable" "backtrace" "Ljava/lang/Object;") ∈ big := big_of 658 rfl (by decide +kernel)
set_option maxRecDepth 20000 in
theorem mt_659 : (Jvm.Cond.stringRef "BoxDrawer" (131 : Nat) "no boxes") ∈ lw_tbl := tab_of 659 rfl
set_option maxRecDepth 20000 in
theorem mw_660 : (Jvm.Cond.methodLink "BoxDrawer" (133 : Nat) ({ cls := "java/lang/IllegalStateException", name := "<init>", desc := "(Ljava/lang/String;)V" } : Jvm.MethodName)) ∈ big := big_of 660 rfl (by decide +kernel)
set_option maxRecDepth 20000 in
theorem mw_661 : (Jvm.Cond.instanceMethod ({ cls := "java/lang/IllegalStateException", name := "<init>", desc := "(Ljava/lang/String;)V" } : Jvm.MethodName)) ∈ big := big_of 661 rfl (by decide +kernel)
set_option maxRecDepth 20000 in
theorem mw_662 : (Jvm.Cond.code ({ cls := "java/lang/IllegalStateException", name := "<init>", desc := "(Ljava/lang/String;)V" } : Jvm.MethodName) prog_10_method_2_code (2 : Nat) (Option.none : Option Jvm.ClassFile.FieldType)) ∈ big := big_of 662 rfl (by decide +kernel)
set_option maxRecDepth 20000 in
theorem mw_663 : (Jvm.Cond.methodLink "java/lang/IllegalStateException" (7 : Nat) ({ cls := "java/lang/RuntimeException", name := "<init>", desc := "(Ljava/lang/String;)V" } : Jvm.MethodName)) ∈ big := big_of 663 rfl (by decide +kernel)
set_option maxRecDepth 20000 in
theorem mw_664 : (Jvm.Cond.lays "java/lang/IllegalStateException" "java/lang/Throwable" "depth" "I") ∈ big := big_of 664 rfl (by decide +kernel)
set_option maxRecDepth 20000 in
theorem mt_666 : (Jvm.Cond.methodLinkNest "BoxDrawer" (134 : Nat) ({ cls := "BoxDrawer$Box", name := "bound", desc := "(I)I" } : Jvm.MethodName) "BoxDrawer") ∈ lw_tbl := tab_of 666 rfl
set_option maxRecDepth 20000 in
theorem mw_668 : (Jvm.Cond.instanceMethod ({ cls := "BoxDrawer$Box", name := "bound", desc := "(I)I" } : Jvm.MethodName)) ∈ big := big_of 668 rfl (by decide +kernel)
set_option maxRecDepth 20000 in
theorem mw_669 : (Jvm.Cond.code ({ cls := "BoxDrawer$Box", name := "bound", desc := "(I)I" } : Jvm.MethodName) prog_2_method_6_code (2 : Nat) (Option.some Jvm.ClassFile.FieldType.int)) ∈ big := big_of 669 rfl (by decide +kernel)
set_option maxRecDepth 20000 in
theorem mw_670 : (Jvm.Cond.methodLink "BoxDrawer" (137 : Nat) ({ cls := "BoxDrawer", name := "isLeast", desc := "(I)Z" } : Jvm.MethodName)) ∈ big := big_of 670 rfl (by decide +kernel)
set_option maxRecDepth 20000 in
theorem mw_671 : (Jvm.Cond.static ({ cls := "BoxDrawer", name := "isLeast", desc := "(I)Z" } : Jvm.MethodName)) ∈ big := big_of 671 rfl (by decide +kernel)
set_option maxRecDepth 20000 in
theorem mw_672 : (Jvm.Cond.code ({ cls := "BoxDrawer", name := "isLeast", desc := "(I)Z" } : Jvm.MethodName) prog_1_method_20_code (1 : Nat) (Option.some Jvm.ClassFile.FieldType.boolean)) ∈ big := big_of 672 rfl (by decide +kernel)
set_option maxRecDepth 20000 in
theorem mw_673 : (Jvm.Cond.methodLink "BoxDrawerLaw" (85 : Nat) ({ cls := "BoxDrawerLaw", name := "result", desc := "(LBoxDrawer;I[J)I" } : Jvm.MethodName)) ∈ big := big_of 673 rfl (by decide +kernel)
set_option maxRecDepth 20000 in
theorem mw_674 : (Jvm.Cond.static ({ cls := "BoxDrawerLaw", name := "result", desc := "(LBoxDrawer;I[J)I" } : Jvm.MethodName)) ∈ big := big_of 674 rfl (by decide +kernel)
set_option maxRecDepth 20000 in
theorem mw_675 : (Jvm.Cond.codeWith ({ cls := "BoxDrawerLaw", name := "result", desc := "(LBoxDrawer;I[J)I" } : Jvm.MethodName) method_9_code (4 : Nat) (Option.some Jvm.ClassFile.FieldType.int) [((0 : Nat), (9 : Nat), (12 : Nat), (13 : Nat))]) ∈ big := big_of 675 rfl (by decide +kernel)
set_option maxRecDepth 20000 in
theorem mw_676 : (Jvm.Cond.methodLink "BoxDrawerLaw" (39 : Nat) ({ cls := "BoxDrawer", name := "result", desc := "(I)I" } : Jvm.MethodName)) ∈ big := big_of 676 rfl (by decide +kernel)
set_option maxRecDepth 20000 in
theorem mw_677 : (Jvm.Cond.instanceMethod ({ cls := "BoxDrawer", name := "result", desc := "(I)I" } : Jvm.MethodName)) ∈ big := big_of 677 rfl (by decide +kernel)
set_option maxRecDepth 20000 in
theorem mw_678 : (Jvm.Cond.selects "BoxDrawer" ({ cls := "BoxDrawer", name := "result", desc := "(I)I" } : Jvm.MethodName) ({ cls := "BoxDrawer", name := "result", desc := "(I)I" } : Jvm.MethodName)) ∈ big := big_of 678 rfl (by decide +kernel)
set_option maxRecDepth 20000 in
theorem mw_679 : (Jvm.Cond.code ({ cls := "BoxDrawer", name := "result", desc := "(I)I" } : Jvm.MethodName) prog_1_method_10_code (2 : Nat) (Option.some Jvm.ClassFile.FieldType.int)) ∈ big := big_of 679 rfl (by decide +kernel)
set_option maxRecDepth 20000 in
theorem mt_680 : (Jvm.Cond.stringRef "BoxDrawer" (146 : Nat) "no such place in the result") ∈ lw_tbl := tab_of 680 rfl
set_option maxRecDepth 20000 in
theorem mw_681 : (Jvm.Cond.methodLink "BoxDrawerLaw" (88 : Nat) ({ cls := "BoxDrawerLaw", name := "box", desc := "(LBoxDrawer;II[J)I" } : Jvm.MethodName)) ∈ big := big_of 681 rfl (by decide +kernel)
set_option maxRecDepth 20000 in
theorem mw_682 : (Jvm.Cond.static ({ cls := "BoxDrawerLaw", name := "box", desc := "(LBoxDrawer;II[J)I" } : Jvm.MethodName)) ∈ big := big_of 682 rfl (by decide +kernel)
set_option maxRecDepth 20000 in
theorem mw_683 : (Jvm.Cond.codeWith ({ cls := "BoxDrawerLaw", name := "box", desc := "(LBoxDrawer;II[J)I" } : Jvm.MethodName) method_10_code (5 : Nat) (Option.some Jvm.ClassFile.FieldType.int) [((0 : Nat), (10 : Nat), (13 : Nat), (13 : Nat))]) ∈ big := big_of 683 rfl (by decide +kernel)
set_option maxRecDepth 20000 in
theorem mw_684 : (Jvm.Cond.methodLink "BoxDrawerLaw" (42 : Nat) ({ cls := "BoxDrawer", name := "box", desc := "(II)I" } : Jvm.MethodName)) ∈ big := big_of 684 rfl (by decide +kernel)
set_option maxRecDepth 20000 in
theorem mw_685 : (Jvm.Cond.instanceMethod ({ cls := "BoxDrawer", name := "box", desc := "(II)I" } : Jvm.MethodName)) ∈ big := big_of 685 rfl (by decide +kernel)
set_option maxRecDepth 20000 in
theorem mw_686 : (Jvm.Cond.selects "BoxDrawer" ({ cls := "BoxDrawer", name := "box", desc := "(II)I" } : Jvm.MethodName) ({ cls := "BoxDrawer", name := "box", desc := "(II)I" } : Jvm.MethodName)) ∈ big := big_of 686 rfl (by decide +kernel)
set_option maxRecDepth 20000 in
theorem mw_687 : (Jvm.Cond.code ({ cls := "BoxDrawer", name := "box", desc := "(II)I" } : Jvm.MethodName) prog_1_method_11_code (4 : Nat) (Option.some Jvm.ClassFile.FieldType.int)) ∈ big := big_of 687 rfl (by decide +kernel)
set_option maxRecDepth 20000 in
theorem mw_688 : (Jvm.Cond.classLink "BoxDrawerLaw" (47 : Nat) "BoxDrawerModel") ∈ big := big_of 688 rfl (by decide +kernel)
set_option maxRecDepth 20000 in
theorem mw_689 : (Jvm.Cond.instantiable "BoxDrawerModel" (8 : Nat)) ∈ big := big_of 689 rfl (by decide +kernel)
set_option maxRecDepth 20000 in
theorem mw_690 : (Jvm.Cond.methodLink "BoxDrawerLaw" (49 : Nat) ({ cls := "BoxDrawerModel", name := "<init>", desc := "()V" } : Jvm.MethodName)) ∈ big := big_of 690 rfl (by decide +kernel)
set_option maxRecDepth 20000 in
theorem mw_691 : (Jvm.Cond.instanceMethod ({ cls := "BoxDrawerModel", name := "<init>", desc := "()V" } : Jvm.MethodName)) ∈ big := big_of 691 rfl (by decide +kernel)
set_option maxRecDepth 20000 in
theorem mw_692 : (Jvm.Cond.code ({ cls := "BoxDrawerModel", name := "<init>", desc := "()V" } : Jvm.MethodName) prog_4_method_1_code (1 : Nat) (Option.none : Option Jvm.ClassFile.FieldType)) ∈ big := big_of 692 rfl (by decide +kernel)
set_option maxRecDepth 20000 in
theorem mw_693 : (Jvm.Cond.methodLink "BoxDrawerModel" (1 : Nat) ({ cls := "java/lang/Object", name := "<init>", desc := "()V" } : Jvm.MethodName)) ∈ big := big_of 693 rfl (by decide +kernel)
set_option maxRecDepth 20000 in
theorem mw_694 : (Jvm.Cond.fieldLink "BoxDrawerModel" (29 : Nat) "BoxDrawerModel" "thrown" "I") ∈ big := big_of 694 rfl (by decide +kernel)
set_option maxRecDepth 20000 in
theorem mw_695 : (Jvm.Cond.fieldLink "BoxDrawerModel" (7 : Nat) "BoxDrawerModel" "there" "[Z") ∈ big := big_of 695 rfl (by decide +kernel)
set_option maxRecDepth 20000 in
theorem mw_696 : (Jvm.Cond.fieldLink "BoxDrawerModel" (13 : Nat) "BoxDrawerModel" "lowX" "[I") ∈ big := big_of 696 rfl (by decide +kernel)
set_option maxRecDepth 20000 in
theorem mw_697 : (Jvm.Cond.fieldLink "BoxDrawerModel" (17 : Nat) "BoxDrawerModel" "lowY" "[I") ∈ big := big_of 697 rfl (by decide +kernel)
set_option maxRecDepth 20000 in
theorem mw_698 : (Jvm.Cond.fieldLink "BoxDrawerModel" (20 : Nat) "BoxDrawerModel" "highX" "[I") ∈ big := big_of 698 rfl (by decide +kernel)
set_option maxRecDepth 20000 in
theorem mw_699 : (Jvm.Cond.fieldLink "BoxDrawerModel" (23 : Nat) "BoxDrawerModel" "highY" "[I") ∈ big := big_of 699 rfl (by decide +kernel)
set_option maxRecDepth 20000 in
theorem mw_700 : (Jvm.Cond.fieldLink "BoxDrawerModel" (55 : Nat) "BoxDrawerModel" "size" "I") ∈ big := big_of 700 rfl (by decide +kernel)
set_option maxRecDepth 20000 in
theorem mw_701 : (Jvm.Cond.fieldLink "BoxDrawerModel" (26 : Nat) "BoxDrawerModel" "result" "[I") ∈ big := big_of 701 rfl (by decide +kernel)
set_option maxRecDepth 20000 in
theorem mw_702 : (Jvm.Cond.lays "BoxDrawerModel" "BoxDrawerModel" "thrown" "I") ∈ big := big_of 702 rfl (by decide +kernel)
set_option maxRecDepth 20000 in
theorem mw_704 : (Jvm.Cond.laysFinal "BoxDrawerModel" "BoxDrawerModel" "there" "[Z") ∈ big := big_of 704 rfl (by decide +kernel)
set_option maxRecDepth 20000 in
theorem mw_706 : (Jvm.Cond.laysFinal "BoxDrawerModel" "BoxDrawerModel" "lowX" "[I") ∈ big := big_of 706 rfl (by decide +kernel)
set_option maxRecDepth 20000 in
theorem mw_708 : (Jvm.Cond.laysFinal "BoxDrawerModel" "BoxDrawerModel" "lowY" "[I") ∈ big := big_of 708 rfl (by decide +kernel)
set_option maxRecDepth 20000 in
theorem mw_710 : (Jvm.Cond.laysFinal "BoxDrawerModel" "BoxDrawerModel" "highX" "[I") ∈ big := big_of 710 rfl (by decide +kernel)
set_option maxRecDepth 20000 in
theorem mw_712 : (Jvm.Cond.laysFinal "BoxDrawerModel" "BoxDrawerModel" "highY" "[I") ∈ big := big_of 712 rfl (by decide +kernel)
set_option maxRecDepth 20000 in
theorem mw_714 : (Jvm.Cond.lays "BoxDrawerModel" "BoxDrawerModel" "size" "I") ∈ big := big_of 714 rfl (by decide +kernel)
set_option maxRecDepth 20000 in
theorem mw_716 : (Jvm.Cond.laysFinal "BoxDrawerModel" "BoxDrawerModel" "result" "[I") ∈ big := big_of 716 rfl (by decide +kernel)
set_option maxRecDepth 20000 in
theorem mw_719 : (Jvm.Cond.arrayClass Jvm.ClassFile.FieldType.boolean) ∈ big := big_of 719 rfl (by decide +kernel)
set_option maxRecDepth 20000 in
theorem mw_720 : (Jvm.Cond.methodLink "BoxDrawerLaw" (56 : Nat) ({ cls := "BoxDrawerModel", name := "thrown", desc := "()I" } : Jvm.MethodName)) ∈ big := big_of 720 rfl (by decide +kernel)
set_option maxRecDepth 20000 in
theorem mw_721 : (Jvm.Cond.instanceMethod ({ cls := "BoxDrawerModel", name := "thrown", desc := "()I" } : Jvm.MethodName)) ∈ big := big_of 721 rfl (by decide +kernel)
set_option maxRecDepth 20000 in
theorem mw_722 : (Jvm.Cond.selects "BoxDrawerModel" ({ cls := "BoxDrawerModel", name := "thrown", desc := "()I" } : Jvm.MethodName) ({ cls := "BoxDrawerModel", name := "thrown", desc := "()I" } : Jvm.MethodName)) ∈ big := big_of 722 rfl (by decide +kernel)
set_option maxRecDepth 20000 in
theorem mw_723 : (Jvm.Cond.code ({ cls := "BoxDrawerModel", name := "thrown", desc := "()I" } : Jvm.MethodName) prog_4_method_2_code (1 : Nat) (Option.some Jvm.ClassFile.FieldType.int)) ∈ big := big_of 723 rfl (by decide +kernel)
set_option maxRecDepth 20000 in
theorem mw_724 : (Jvm.Cond.methodLink "BoxDrawerLaw" (55 : Nat) ({ cls := "BoxDrawerModel", name := "put", desc := "(IIIII)Z" } : Jvm.MethodName)) ∈ big := big_of 724 rfl (by decide +kernel)
set_option maxRecDepth 20000 in
theorem mw_725 : (Jvm.Cond.instanceMethod ({ cls := "BoxDrawerModel", name := "put", desc := "(IIIII)Z" } : Jvm.MethodName)) ∈ big := big_of 725 rfl (by decide +kernel)
set_option maxRecDepth 20000 in
theorem mw_726 : (Jvm.Cond.selects "BoxDrawerModel" ({ cls := "BoxDrawerModel", name := "put", desc := "(IIIII)Z" } : Jvm.MethodName) ({ cls := "BoxDrawerModel", name := "put", desc := "(IIIII)Z" } : Jvm.MethodName)) ∈ big := big_of 726 rfl (by decide +kernel)
set_option maxRecDepth 20000 in
theorem mw_727 : (Jvm.Cond.code ({ cls := "BoxDrawerModel", name := "put", desc := "(IIIII)Z" } : Jvm.MethodName) prog_4_method_9_code (7 : Nat) (Option.some Jvm.ClassFile.FieldType.boolean)) ∈ big := big_of 727 rfl (by decide +kernel)
set_option maxRecDepth 20000 in
theorem mw_728 : (Jvm.Cond.methodLink "BoxDrawerModel" (35 : Nat) ({ cls := "BoxDrawerModel", name := "within", desc := "(III)Z" } : Jvm.MethodName)) ∈ big := big_of 728 rfl (by decide +kernel)
set_option maxRecDepth 20000 in
theorem mw_729 : (Jvm.Cond.static ({ cls := "BoxDrawerModel", name := "within", desc := "(III)Z" } : Jvm.MethodName)) ∈ big := big_of 729 rfl (by decide +kernel)
set_option maxRecDepth 20000 in
theorem mw_730 : (Jvm.Cond.code ({ cls := "BoxDrawerModel", name := "within", desc := "(III)Z" } : Jvm.MethodName) prog_4_method_4_code (3 : Nat) (Option.some Jvm.ClassFile.FieldType.boolean)) ∈ big := big_of 730 rfl (by decide +kernel)
set_option maxRecDepth 20000 in
theorem mw_731 : (Jvm.Cond.methodLink "BoxDrawerModel" (43 : Nat) ({ cls := "BoxDrawerModel", name := "fail", desc := "(I)I" } : Jvm.MethodName)) ∈ big := big_of 731 rfl (by decide +kernel)
set_option maxRecDepth 20000 in
theorem mw_733 : (Jvm.Cond.instanceMethod ({ cls := "BoxDrawerModel", name := "fail", desc := "(I)I" } : Jvm.MethodName)) ∈ big := big_of 733 rfl (by decide +kernel)
set_option maxRecDepth 20000 in
theorem mw_734 : (Jvm.Cond.code ({ cls := "BoxDrawerModel", name := "fail", desc := "(I)I" } : Jvm.MethodName) prog_4_method_3_code (2 : Nat) (Option.some Jvm.ClassFile.FieldType.int)) ∈ big := big_of 734 rfl (by decide +kernel)
set_option maxRecDepth 20000 in
theorem mw_735 : (Jvm.Cond.methodLink "BoxDrawerModel" (47 : Nat) ({ cls := "BoxDrawerModel", name := "areBounds", desc := "(IIII)Z" } : Jvm.MethodName)) ∈ big := big_of 735 rfl (by decide +kernel)
set_option maxRecDepth 20000 in
theorem mw_736 : (Jvm.Cond.static ({ cls := "BoxDrawerModel", name := "areBounds", desc := "(IIII)Z" } : Jvm.MethodName)) ∈ big := big_of 736 rfl (by decide +kernel)
set_option maxRecDepth 20000 in
theorem mw_737 : (Jvm.Cond.code ({ cls := "BoxDrawerModel", name := "areBounds", desc := "(IIII)Z" } : Jvm.MethodName) prog_4_method_6_code (4 : Nat) (Option.some Jvm.ClassFile.FieldType.boolean)) ∈ big := big_of 737 rfl (by decide +kernel)
set_option maxRecDepth 20000 in
theorem mw_738 : (Jvm.Cond.methodLink "BoxDrawerModel" (39 : Nat) ({ cls := "BoxDrawerModel", name := "isFar", desc := "(I)Z" } : Jvm.MethodName)) ∈ big := big_of 738 rfl (by decide +kernel)
set_option maxRecDepth 20000 in
theorem mw_739 : (Jvm.Cond.static ({ cls := "BoxDrawerModel", name := "isFar", desc := "(I)Z" } : Jvm.MethodName)) ∈ big := big_of 739 rfl (by decide +kernel)
set_option maxRecDepth 20000 in
theorem mw_740 : (Jvm.Cond.code ({ cls := "BoxDrawerModel", name := "isFar", desc := "(I)Z" } : Jvm.MethodName) prog_4_method_5_code (1 : Nat) (Option.some Jvm.ClassFile.FieldType.boolean)) ∈ big := big_of 740 rfl (by decide +kernel)
set_option maxRecDepth 20000 in
theorem mw_741 : (Jvm.Cond.constant "BoxDrawerModel" (33 : Nat) (-1000000000 : Int32)) ∈ big := big_of 741 rfl (by decide +kernel)
set_option maxRecDepth 20000 in
theorem mw_742 : (Jvm.Cond.constant "BoxDrawerModel" (34 : Nat) (1000000000 : Int32)) ∈ big := big_of 742 rfl (by decide +kernel)
set_option maxRecDepth 20000 in
theorem mw_743 : (Jvm.Cond.methodLink "BoxDrawerLaw" (63 : Nat) ({ cls := "BoxDrawerModel", name := "take", desc := "(I)Z" } : Jvm.MethodName)) ∈ big := big_of 743 rfl (by decide +kernel)
set_option maxRecDepth 20000 in
theorem mw_744 : (Jvm.Cond.instanceMethod ({ cls := "BoxDrawerModel", name := "take", desc := "(I)Z" } : Jvm.MethodName)) ∈ big := big_of 744 rfl (by decide +kernel)
set_option maxRecDepth 20000 in
theorem mw_745 : (Jvm.Cond.selects "BoxDrawerModel" ({ cls := "BoxDrawerModel", name := "take", desc := "(I)Z" } : Jvm.MethodName) ({ cls := "BoxDrawerModel", name := "take", desc := "(I)Z" } : Jvm.MethodName)) ∈ big := big_of 745 rfl (by decide +kernel)
set_option maxRecDepth 20000 in
theorem mw_746 : (Jvm.Cond.code ({ cls := "BoxDrawerModel", name := "take", desc := "(I)Z" } : Jvm.MethodName) prog_4_method_10_code (3 : Nat) (Option.some Jvm.ClassFile.FieldType.boolean)) ∈ big := big_of 746 rfl (by decide +kernel)
set_option maxRecDepth 20000 in
theorem mw_747 : (Jvm.Cond.methodLink "BoxDrawerLaw" (67 : Nat) ({ cls := "BoxDrawerModel", name := "clear", desc := "()I" } : Jvm.MethodName)) ∈ big := big_of 747 rfl (by decide +kernel)
set_option maxRecDepth 20000 in
theorem mw_748 : (Jvm.Cond.instanceMethod ({ cls := "BoxDrawerModel", name := "clear", desc := "()I" } : Jvm.MethodName)) ∈ big := big_of 748 rfl (by decide +kernel)
set_option maxRecDepth 20000 in
theorem mw_749 : (Jvm.Cond.selects "BoxDrawerModel" ({ cls := "BoxDrawerModel", name := "clear", desc := "()I" } : Jvm.MethodName) ({ cls := "BoxDrawerModel", name := "clear", desc := "()I" } : Jvm.MethodName)) ∈ big := big_of 749 rfl (by decide +kernel)
set_option maxRecDepth 20000 in
theorem mw_750 : (Jvm.Cond.code ({ cls := "BoxDrawerModel", name := "clear", desc := "()I" } : Jvm.MethodName) prog_4_method_11_code (3 : Nat) (Option.some Jvm.ClassFile.FieldType.int)) ∈ big := big_of 750 rfl (by decide +kernel)
set_option maxRecDepth 20000 in
theorem mw_751 : (Jvm.Cond.methodLink "BoxDrawerModel" (51 : Nat) ({ cls := "BoxDrawerModel", name := "many", desc := "()I" } : Jvm.MethodName)) ∈ big := big_of 751 rfl (by decide +kernel)
set_option maxRecDepth 20000 in
theorem mw_753 : (Jvm.Cond.instanceMethod ({ cls := "BoxDrawerModel", name := "many", desc := "()I" } : Jvm.MethodName)) ∈ big := big_of 753 rfl (by decide +kernel)
set_option maxRecDepth 20000 in
theorem mw_754 : (Jvm.Cond.code ({ cls := "BoxDrawerModel", name := "many", desc := "()I" } : Jvm.MethodName) prog_4_method_8_code (3 : Nat) (Option.some Jvm.ClassFile.FieldType.int)) ∈ big := big_of 754 rfl (by decide +kernel)
set_option maxRecDepth 20000 in
theorem mw_755 : (Jvm.Cond.methodLink "BoxDrawerLaw" (70 : Nat) ({ cls := "BoxDrawerModel", name := "find", desc := "(IIIII)I" } : Jvm.MethodName)) ∈ big := big_of 755 rfl (by decide +kernel)
set_option maxRecDepth 20000 in
theorem mw_756 : (Jvm.Cond.instanceMethod ({ cls := "BoxDrawerModel", name := "find", desc := "(IIIII)I" } : Jvm.MethodName)) ∈ big := big_of 756 rfl (by decide +kernel)
set_option maxRecDepth 20000 in
theorem mw_757 : (Jvm.Cond.selects "BoxDrawerModel" ({ cls := "BoxDrawerModel", name := "find", desc := "(IIIII)I" } : Jvm.MethodName) ({ cls := "BoxDrawerModel", name := "find", desc := "(IIIII)I" } : Jvm.MethodName)) ∈ big := big_of 757 rfl (by decide +kernel)
set_option maxRecDepth 20000 in
theorem mw_758 : (Jvm.Cond.code ({ cls := "BoxDrawerModel", name := "find", desc := "(IIIII)I" } : Jvm.MethodName) prog_4_method_15_code (8 : Nat) (Option.some Jvm.ClassFile.FieldType.int)) ∈ big := big_of 758 rfl (by decide +kernel)
set_option maxRecDepth 20000 in
theorem mw_759 : (Jvm.Cond.methodLink "BoxDrawerModel" (58 : Nat) ({ cls := "BoxDrawerModel", name := "meets", desc := "(IIIII)Z" } : Jvm.MethodName)) ∈ big := big_of 759 rfl (by decide +kernel)
set_option maxRecDepth 20000 in
theorem mw_761 : (Jvm.Cond.instanceMethod ({ cls := "BoxDrawerModel", name := "meets", desc := "(IIIII)Z" } : Jvm.MethodName)) ∈ big := big_of 761 rfl (by decide +kernel)
set_option maxRecDepth 20000 in
theorem mw_762 : (Jvm.Cond.code ({ cls := "BoxDrawerModel", name := "meets", desc := "(IIIII)Z" } : Jvm.MethodName) prog_4_method_12_code (6 : Nat) (Option.some Jvm.ClassFile.FieldType.boolean)) ∈ big := big_of 762 rfl (by decide +kernel)
set_option maxRecDepth 20000 in
theorem mw_763 : (Jvm.Cond.methodLink "BoxDrawerModel" (62 : Nat) ({ cls := "BoxDrawerModel", name := "lies", desc := "(IIIII)Z" } : Jvm.MethodName)) ∈ big := big_of 763 rfl (by decide +kernel)
set_option maxRecDepth 20000 in
theorem mw_765 : (Jvm.Cond.instanceMethod ({ cls := "BoxDrawerModel", name := "lies", desc := "(IIIII)Z" } : Jvm.MethodName)) ∈ big := big_of 765 rfl (by decide +kernel)
set_option maxRecDepth 20000 in
theorem mw_766 : (Jvm.Cond.code ({ cls := "BoxDrawerModel", name := "lies", desc := "(IIIII)Z" } : Jvm.MethodName) prog_4_method_13_code (6 : Nat) (Option.some Jvm.ClassFile.FieldType.boolean)) ∈ big := big_of 766 rfl (by decide +kernel)
set_option maxRecDepth 20000 in
theorem mw_767 : (Jvm.Cond.methodLink "BoxDrawerModel" (65 : Nat) ({ cls := "BoxDrawerModel", name := "has", desc := "(IIIII)Z" } : Jvm.MethodName)) ∈ big := big_of 767 rfl (by decide +kernel)
set_option maxRecDepth 20000 in
theorem mw_769 : (Jvm.Cond.instanceMethod ({ cls := "BoxDrawerModel", name := "has", desc := "(IIIII)Z" } : Jvm.MethodName)) ∈ big := big_of 769 rfl (by decide +kernel)
set_option maxRecDepth 20000 in
theorem mw_770 : (Jvm.Cond.code ({ cls := "BoxDrawerModel", name := "has", desc := "(IIIII)Z" } : Jvm.MethodName) prog_4_method_14_code (6 : Nat) (Option.some Jvm.ClassFile.FieldType.boolean)) ∈ big := big_of 770 rfl (by decide +kernel)
set_option maxRecDepth 20000 in
theorem mw_771 : (Jvm.Cond.methodLink "BoxDrawerLaw" (74 : Nat) ({ cls := "BoxDrawerModel", name := "nearest", desc := "(III)I" } : Jvm.MethodName)) ∈ big := big_of 771 rfl (by decide +kernel)
set_option maxRecDepth 20000 in
theorem mw_772 : (Jvm.Cond.instanceMethod ({ cls := "BoxDrawerModel", name := "nearest", desc := "(III)I" } : Jvm.MethodName)) ∈ big := big_of 772 rfl (by decide +kernel)
set_option maxRecDepth 20000 in
theorem mw_773 : (Jvm.Cond.selects "BoxDrawerModel" ({ cls := "BoxDrawerModel", name := "nearest", desc := "(III)I" } : Jvm.MethodName) ({ cls := "BoxDrawerModel", name := "nearest", desc := "(III)I" } : Jvm.MethodName)) ∈ big := big_of 773 rfl (by decide +kernel)
set_option maxRecDepth 20000 in
theorem mw_774 : (Jvm.Cond.code ({ cls := "BoxDrawerModel", name := "nearest", desc := "(III)I" } : Jvm.MethodName) prog_4_method_18_code (15 : Nat) (Option.some Jvm.ClassFile.FieldType.int)) ∈ big := big_of 774 rfl (by decide +kernel)
set_option maxRecDepth 20000 in
theorem mw_775 : (Jvm.Cond.constantLong "BoxDrawerModel" (72 : Nat) (-1 : Int64)) ∈ big := big_of 775 rfl (by decide +kernel)
set_option maxRecDepth 20000 in
theorem mw_776 : (Jvm.Cond.methodLink "BoxDrawerModel" (74 : Nat) ({ cls := "BoxDrawerModel", name := "away", desc := "(III)J" } : Jvm.MethodName)) ∈ big := big_of 776 rfl (by decide +kernel)
set_option maxRecDepth 20000 in
theorem mw_778 : (Jvm.Cond.instanceMethod ({ cls := "BoxDrawerModel", name := "away", desc := "(III)J" } : Jvm.MethodName)) ∈ big := big_of 778 rfl (by decide +kernel)
set_option maxRecDepth 20000 in
theorem mw_779 : (Jvm.Cond.code ({ cls := "BoxDrawerModel", name := "away", desc := "(III)J" } : Jvm.MethodName) prog_4_method_17_code (8 : Nat) (Option.some Jvm.ClassFile.FieldType.long)) ∈ big := big_of 779 rfl (by decide +kernel)
set_option maxRecDepth 20000 in
theorem mw_780 : (Jvm.Cond.methodLink "BoxDrawerModel" (68 : Nat) ({ cls := "BoxDrawerModel", name := "gap", desc := "(JJJ)J" } : Jvm.MethodName)) ∈ big := big_of 780 rfl (by decide +kernel)
set_option maxRecDepth 20000 in
theorem mw_781 : (Jvm.Cond.static ({ cls := "BoxDrawerModel", name := "gap", desc := "(JJJ)J" } : Jvm.MethodName)) ∈ big := big_of 781 rfl (by decide +kernel)
set_option maxRecDepth 20000 in
theorem mw_782 : (Jvm.Cond.code ({ cls := "BoxDrawerModel", name := "gap", desc := "(JJJ)J" } : Jvm.MethodName) prog_4_method_16_code (6 : Nat) (Option.some Jvm.ClassFile.FieldType.long)) ∈ big := big_of 782 rfl (by decide +kernel)
set_option maxRecDepth 20000 in
theorem mw_783 : (Jvm.Cond.methodLink "BoxDrawerLaw" (78 : Nat) ({ cls := "BoxDrawerModel", name := "pairs", desc := "()I" } : Jvm.MethodName)) ∈ big := big_of 783 rfl (by decide +kernel)
set_option maxRecDepth 20000 in
theorem mw_784 : (Jvm.Cond.instanceMethod ({ cls := "BoxDrawerModel", name := "pairs", desc := "()I" } : Jvm.MethodName)) ∈ big := big_of 784 rfl (by decide +kernel)
set_option maxRecDepth 20000 in
theorem mw_785 : (Jvm.Cond.selects "BoxDrawerModel" ({ cls := "BoxDrawerModel", name := "pairs", desc := "()I" } : Jvm.MethodName) ({ cls := "BoxDrawerModel", name := "pairs", desc := "()I" } : Jvm.MethodName)) ∈ big := big_of 785 rfl (by decide +kernel)
set_option maxRecDepth 20000 in
theorem mw_786 : (Jvm.Cond.code ({ cls := "BoxDrawerModel", name := "pairs", desc := "()I" } : Jvm.MethodName) prog_4_method_19_code (4 : Nat) (Option.some Jvm.ClassFile.FieldType.int)) ∈ big := big_of 786 rfl (by decide +kernel)
set_option maxRecDepth 20000 in
theorem mw_787 : (Jvm.Cond.methodLink "BoxDrawerLaw" (81 : Nat) ({ cls := "BoxDrawerModel", name := "distance", desc := "(III)J" } : Jvm.MethodName)) ∈ big := big_of 787 rfl (by decide +kernel)
set_option maxRecDepth 20000 in
theorem mw_788 : (Jvm.Cond.instanceMethod ({ cls := "BoxDrawerModel", name := "distance", desc := "(III)J" } : Jvm.MethodName)) ∈ big := big_of 788 rfl (by decide +kernel)
set_option maxRecDepth 20000 in
theorem mw_789 : (Jvm.Cond.selects "BoxDrawerModel" ({ cls := "BoxDrawerModel", name := "distance", desc := "(III)J" } : Jvm.MethodName) ({ cls := "BoxDrawerModel", name := "distance", desc := "(III)J" } : Jvm.MethodName)) ∈ big := big_of 789 rfl (by decide +kernel)
set_option maxRecDepth 20000 in
theorem mw_790 : (Jvm.Cond.code ({ cls := "BoxDrawerModel", name := "distance", desc := "(III)J" } : Jvm.MethodName) prog_4_method_20_code (4 : Nat) (Option.some Jvm.ClassFile.FieldType.long)) ∈ big := big_of 790 rfl (by decide +kernel)
set_option maxRecDepth 20000 in
theorem mw_791 : (Jvm.Cond.methodLink "BoxDrawerModel" (78 : Nat) ({ cls := "BoxDrawerModel", name := "isThere", desc := "(I)Z" } : Jvm.MethodName)) ∈ big := big_of 791 rfl (by decide +kernel)
set_option maxRecDepth 20000 in
theorem mw_793 : (Jvm.Cond.instanceMethod ({ cls := "BoxDrawerModel", name := "isThere", desc := "(I)Z" } : Jvm.MethodName)) ∈ big := big_of 793 rfl (by decide +kernel)
set_option maxRecDepth 20000 in
theorem mw_794 : (Jvm.Cond.code ({ cls := "BoxDrawerModel", name := "isThere", desc := "(I)Z" } : Jvm.MethodName) prog_4_method_7_code (2 : Nat) (Option.some Jvm.ClassFile.FieldType.boolean)) ∈ big := big_of 794 rfl (by decide +kernel)
set_option maxRecDepth 20000 in
theorem mw_795 : (Jvm.Cond.methodLink "BoxDrawerLaw" (84 : Nat) ({ cls := "BoxDrawerModel", name := "bounds", desc := "(I)I" } : Jvm.MethodName)) ∈ big := big_of 795 rfl (by decide +kernel)
set_option maxRecDepth 20000 in
theorem mw_796 : (Jvm.Cond.instanceMethod ({ cls := "BoxDrawerModel", name := "bounds", desc := "(I)I" } : Jvm.MethodName)) ∈ big := big_of 796 rfl (by decide +kernel)
set_option maxRecDepth 20000 in
theorem mw_797 : (Jvm.Cond.selects "BoxDrawerModel" ({ cls := "BoxDrawerModel", name := "bounds", desc := "(I)I" } : Jvm.MethodName) ({ cls := "BoxDrawerModel", name := "bounds", desc := "(I)I" } : Jvm.MethodName)) ∈ big := big_of 797 rfl (by decide +kernel)
set_option maxRecDepth 20000 in
theorem mw_798 : (Jvm.Cond.code ({ cls := "BoxDrawerModel", name := "bounds", desc := "(I)I" } : Jvm.MethodName) prog_4_method_22_code (4 : Nat) (Option.some Jvm.ClassFile.FieldType.int)) ∈ big := big_of 798 rfl (by decide +kernel)
set_option maxRecDepth 20000 in
theorem mw_799 : (Jvm.Cond.methodLink "BoxDrawerModel" (81 : Nat) ({ cls := "BoxDrawerModel", name := "bound", desc := "(II)I" } : Jvm.MethodName)) ∈ big := big_of 799 rfl (by decide +kernel)
set_option maxRecDepth 20000 in
theorem mw_801 : (Jvm.Cond.instanceMethod ({ cls := "BoxDrawerModel", name := "bound", desc := "(II)I" } : Jvm.MethodName)) ∈ big := big_of 801 rfl (by decide +kernel)
set_option maxRecDepth 20000 in
theorem mw_802 : (Jvm.Cond.code ({ cls := "BoxDrawerModel", name := "bound", desc := "(II)I" } : Jvm.MethodName) prog_4_method_21_code (3 : Nat) (Option.some Jvm.ClassFile.FieldType.int)) ∈ big := big_of 802 rfl (by decide +kernel)
set_option maxRecDepth 20000 in
theorem mw_803 : (Jvm.Cond.methodLink "BoxDrawerLaw" (87 : Nat) ({ cls := "BoxDrawerModel", name := "result", desc := "(I)I" } : Jvm.MethodName)) ∈ big := big_of 803 rfl (by decide +kernel)
set_option maxRecDepth 20000 in
theorem mw_804 : (Jvm.Cond.instanceMethod ({ cls := "BoxDrawerModel", name := "result", desc := "(I)I" } : Jvm.MethodName)) ∈ big := big_of 804 rfl (by decide +kernel)
set_option maxRecDepth 20000 in
theorem mw_805 : (Jvm.Cond.selects "BoxDrawerModel" ({ cls := "BoxDrawerModel", name := "result", desc := "(I)I" } : Jvm.MethodName) ({ cls := "BoxDrawerModel", name := "result", desc := "(I)I" } : Jvm.MethodName)) ∈ big := big_of 805 rfl (by decide +kernel)
set_option maxRecDepth 20000 in
theorem mw_806 : (Jvm.Cond.code ({ cls := "BoxDrawerModel", name := "result", desc := "(I)I" } : Jvm.MethodName) prog_4_method_23_code (2 : Nat) (Option.some Jvm.ClassFile.FieldType.int)) ∈ big := big_of 806 rfl (by decide +kernel)
set_option maxRecDepth 20000 in
theorem mw_807 : (Jvm.Cond.methodLink "BoxDrawerLaw" (91 : Nat) ({ cls := "BoxDrawerModel", name := "box", desc := "(II)I" } : Jvm.MethodName)) ∈ big := big_of 807 rfl (by decide +kernel)
set_option maxRecDepth 20000 in
theorem mw_808 : (Jvm.Cond.instanceMethod ({ cls := "BoxDrawerModel", name := "box", desc := "(II)I" } : Jvm.MethodName)) ∈ big := big_of 808 rfl (by decide +kernel)
set_option maxRecDepth 20000 in
theorem mw_809 : (Jvm.Cond.selects "BoxDrawerModel" ({ cls := "BoxDrawerModel", name := "box", desc := "(II)I" } : Jvm.MethodName) ({ cls := "BoxDrawerModel", name := "box", desc := "(II)I" } : Jvm.MethodName)) ∈ big := big_of 809 rfl (by decide +kernel)
set_option maxRecDepth 20000 in
theorem mw_810 : (Jvm.Cond.code ({ cls := "BoxDrawerModel", name := "box", desc := "(II)I" } : Jvm.MethodName) prog_4_method_24_code (3 : Nat) (Option.some Jvm.ClassFile.FieldType.int)) ∈ big := big_of 810 rfl (by decide +kernel)
set_option maxRecDepth 20000 in
theorem mw_811 : (Jvm.Cond.methodLink "BoxDrawerLaw" (95 : Nat) ({ cls := "BoxDrawerModel", name := "count", desc := "(I)I" } : Jvm.MethodName)) ∈ big := big_of 811 rfl (by decide +kernel)
set_option maxRecDepth 20000 in
theorem mw_812 : (Jvm.Cond.instanceMethod ({ cls := "BoxDrawerModel", name := "count", desc := "(I)I" } : Jvm.MethodName)) ∈ big := big_of 812 rfl (by decide +kernel)
set_option maxRecDepth 20000 in
theorem mw_813 : (Jvm.Cond.selects "BoxDrawerModel" ({ cls := "BoxDrawerModel", name := "count", desc := "(I)I" } : Jvm.MethodName) ({ cls := "BoxDrawerModel", name := "count", desc := "(I)I" } : Jvm.MethodName)) ∈ big := big_of 813 rfl (by decide +kernel)
set_option maxRecDepth 20000 in
theorem mw_814 : (Jvm.Cond.code ({ cls := "BoxDrawerModel", name := "count", desc := "(I)I" } : Jvm.MethodName) prog_4_method_25_code (2 : Nat) (Option.some Jvm.ClassFile.FieldType.int)) ∈ big := big_of 814 rfl (by decide +kernel)
set_option maxRecDepth 20000 in
theorem mw_815 : (Jvm.Cond.sameMethod "java/lang/Throwable" "java/lang/Throwable" "fillInStackTrace" "(I)Ljava/lang/Throwable;") ∈ big := big_of 815 rfl (by decide +kernel)
set_option maxRecDepth 20000 in
theorem mt_824 : (Jvm.Cond.castable "BoxDrawer$Box" "BoxDrawer$Box") ∈ lw_tbl := tab_of 824 rfl
set_option maxRecDepth 20000 in
theorem mw_825 : (Jvm.Cond.sameMethod "[Ljava/lang/Object;" "java/lang/Object" "getClass" "()Ljava/lang/Class;") ∈ big := big_of 825 rfl (by decide +kernel)
set_option maxRecDepth 20000 in
theorem mw_826 : (Jvm.Cond.selects "[Ljava/lang/Object;" ({ cls := "java/lang/Object", name := "getClass", desc := "()Ljava/lang/Class;" } : Jvm.MethodName) ({ cls := "java/lang/Object", name := "getClass", desc := "()Ljava/lang/Class;" } : Jvm.MethodName)) ∈ big := big_of 826 rfl (by decide +kernel)
set_option maxRecDepth 20000 in
theorem mt_827 : (Jvm.Cond.declares ({ cls := "java/lang/Object", name := "getClass", desc := "()Ljava/lang/Class;" } : Jvm.MethodName)) ∈ lw_tbl := tab_of 827 rfl
set_option maxRecDepth 20000 in
theorem mt_828 : (Jvm.Cond.castable "BoxDrawer" "java/lang/Object") ∈ lw_tbl := tab_of 828 rfl
set_option maxRecDepth 20000 in
theorem mt_829 : (Jvm.Cond.castable "BoxDrawerModel" "java/lang/Object") ∈ lw_tbl := tab_of 829 rfl
set_option maxRecDepth 20000 in
theorem mt_830 : (Jvm.Cond.castable "BoxDrawer$Box" "java/lang/Object") ∈ lw_tbl := tab_of 830 rfl
set_option maxRecDepth 20000 in
theorem mt_831 : (Jvm.Cond.castable "java/lang/String" "java/lang/Object") ∈ lw_tbl := tab_of 831 rfl
end
section
/-! a private method is selected by its own class -/
theorem sel_of {w : Cond} (k : Nat) (h : (k2_sels lw_privs)[k]? = some w) (g : goodWord w = true) : w ∈ big := List.mem_filter.mpr ⟨List.mem_append_left _ (List.mem_of_getElem? h), g⟩
theorem msel_0 : Cond.selects "BoxDrawer$Box" ⟨"BoxDrawer$Box", "meets", "(LBoxDrawer$Box;)Z"⟩ ⟨"BoxDrawer$Box", "meets", "(LBoxDrawer$Box;)Z"⟩ ∈ big := sel_of 0 rfl (by decide +kernel)
theorem msel_1 : Cond.selects "BoxDrawer" ⟨"BoxDrawer", "append", "(I)V"⟩ ⟨"BoxDrawer", "append", "(I)V"⟩ ∈ big := sel_of 1 rfl (by decide +kernel)
theorem msel_2 : Cond.selects "BoxDrawer" ⟨"BoxDrawer", "makeRoom", "(I)V"⟩ ⟨"BoxDrawer", "makeRoom", "(I)V"⟩ ∈ big := sel_of 2 rfl (by decide +kernel)
theorem msel_4 : Cond.selects "BoxDrawer" ⟨"BoxDrawer", "indexFor", "(I)I"⟩ ⟨"BoxDrawer", "indexFor", "(I)I"⟩ ∈ big := sel_of 4 rfl (by decide +kernel)
theorem msel_5 : Cond.selects "BoxDrawer" ⟨"BoxDrawer", "isAt", "(II)Z"⟩ ⟨"BoxDrawer", "isAt", "(II)Z"⟩ ∈ big := sel_of 5 rfl (by decide +kernel)
theorem msel_6 : Cond.selects "java/util/ArrayList" ⟨"java/util/ArrayList", "rangeCheckForAdd", "(I)V"⟩ ⟨"java/util/ArrayList", "rangeCheckForAdd", "(I)V"⟩ ∈ big := sel_of 6 rfl (by decide +kernel)
theorem msel_7 : Cond.selects "java/util/ArrayList" ⟨"java/util/ArrayList", "outOfBoundsMsg", "(I)Ljava/lang/String;"⟩ ⟨"java/util/ArrayList", "outOfBoundsMsg", "(I)Ljava/lang/String;"⟩ ∈ big := sel_of 7 rfl (by decide +kernel)
theorem msel_8 : Cond.selects "java/util/ArrayList" ⟨"java/util/ArrayList", "grow", "()[Ljava/lang/Object;"⟩ ⟨"java/util/ArrayList", "grow", "()[Ljava/lang/Object;"⟩ ∈ big := sel_of 8 rfl (by decide +kernel)
theorem msel_9 : Cond.selects "java/util/ArrayList" ⟨"java/util/ArrayList", "grow", "(I)[Ljava/lang/Object;"⟩ ⟨"java/util/ArrayList", "grow", "(I)[Ljava/lang/Object;"⟩ ∈ big := sel_of 9 rfl (by decide +kernel)
theorem msel_10 : Cond.selects "java/util/ArrayList" ⟨"java/util/ArrayList", "fastRemove", "([Ljava/lang/Object;I)V"⟩ ⟨"java/util/ArrayList", "fastRemove", "([Ljava/lang/Object;I)V"⟩ ∈ big := sel_of 10 rfl (by decide +kernel)
theorem msel_11 : Cond.selects "BoxDrawer$Box" ⟨"BoxDrawer$Box", "liesIn", "(LBoxDrawer$Box;)Z"⟩ ⟨"BoxDrawer$Box", "liesIn", "(LBoxDrawer$Box;)Z"⟩ ∈ big := sel_of 11 rfl (by decide +kernel)
theorem msel_12 : Cond.selects "BoxDrawer" ⟨"BoxDrawer", "makeRoomForDistances", "()V"⟩ ⟨"BoxDrawer", "makeRoomForDistances", "()V"⟩ ∈ big := sel_of 12 rfl (by decide +kernel)
theorem msel_13 : Cond.selects "BoxDrawer$Box" ⟨"BoxDrawer$Box", "distanceFrom", "(II)J"⟩ ⟨"BoxDrawer$Box", "distanceFrom", "(II)J"⟩ ∈ big := sel_of 13 rfl (by decide +kernel)
theorem msel_14 : Cond.selects "BoxDrawer" ⟨"BoxDrawer", "insertByDistance", "(IJI)V"⟩ ⟨"BoxDrawer", "insertByDistance", "(IJI)V"⟩ ∈ big := sel_of 14 rfl (by decide +kernel)
theorem msel_15 : Cond.selects "BoxDrawer" ⟨"BoxDrawer", "indexBehind", "(J)I"⟩ ⟨"BoxDrawer", "indexBehind", "(J)I"⟩ ∈ big := sel_of 15 rfl (by decide +kernel)
theorem msel_16 : Cond.selects "BoxDrawer" ⟨"BoxDrawer", "requireBox", "(I)LBoxDrawer$Box;"⟩ ⟨"BoxDrawer", "requireBox", "(I)LBoxDrawer$Box;"⟩ ∈ big := sel_of 16 rfl (by decide +kernel)
theorem msel_17 : Cond.selects "BoxDrawer$Box" ⟨"BoxDrawer$Box", "bound", "(I)I"⟩ ⟨"BoxDrawer$Box", "bound", "(I)I"⟩ ∈ big := sel_of 17 rfl (by decide +kernel)
theorem msel_18 : Cond.selects "BoxDrawerModel" ⟨"BoxDrawerModel", "fail", "(I)I"⟩ ⟨"BoxDrawerModel", "fail", "(I)I"⟩ ∈ big := sel_of 18 rfl (by decide +kernel)
theorem msel_19 : Cond.selects "BoxDrawerModel" ⟨"BoxDrawerModel", "many", "()I"⟩ ⟨"BoxDrawerModel", "many", "()I"⟩ ∈ big := sel_of 19 rfl (by decide +kernel)
theorem msel_20 : Cond.selects "BoxDrawerModel" ⟨"BoxDrawerModel", "meets", "(IIIII)Z"⟩ ⟨"BoxDrawerModel", "meets", "(IIIII)Z"⟩ ∈ big := sel_of 20 rfl (by decide +kernel)
theorem msel_21 : Cond.selects "BoxDrawerModel" ⟨"BoxDrawerModel", "lies", "(IIIII)Z"⟩ ⟨"BoxDrawerModel", "lies", "(IIIII)Z"⟩ ∈ big := sel_of 21 rfl (by decide +kernel)
theorem msel_22 : Cond.selects "BoxDrawerModel" ⟨"BoxDrawerModel", "has", "(IIIII)Z"⟩ ⟨"BoxDrawerModel", "has", "(IIIII)Z"⟩ ∈ big := sel_of 22 rfl (by decide +kernel)
theorem msel_23 : Cond.selects "BoxDrawerModel" ⟨"BoxDrawerModel", "away", "(III)J"⟩ ⟨"BoxDrawerModel", "away", "(III)J"⟩ ∈ big := sel_of 23 rfl (by decide +kernel)
theorem msel_24 : Cond.selects "BoxDrawerModel" ⟨"BoxDrawerModel", "isThere", "(I)Z"⟩ ⟨"BoxDrawerModel", "isThere", "(I)Z"⟩ ∈ big := sel_of 24 rfl (by decide +kernel)
theorem msel_25 : Cond.selects "BoxDrawerModel" ⟨"BoxDrawerModel", "bound", "(II)I"⟩ ⟨"BoxDrawerModel", "bound", "(II)I"⟩ ∈ big := sel_of 25 rfl (by decide +kernel)
end
section
/-! decode rows, by program -/
theorem d_A_init_0 : decode c_A_init 0 = .ok (.aload_n 0, 1) := by decide +kernel
theorem d_A_init_1 : decode c_A_init 1 = .ok (.invokespecial 1, 3) := by decide +kernel
theorem d_A_init_4 : decode c_A_init 4 = .ok (.aload_n 0, 1) := by decide +kernel
theorem d_A_init_5 : decode c_A_init 5 = .ok (.getstatic 39, 3) := by decide +kernel
theorem d_A_init_8 : decode c_A_init 8 = .ok (.putfield 9, 3) := by decide +kernel
theorem d_A_init_11 : decode c_A_init 11 = .ok (.return_, 1) := by decide +kernel
theorem d_AL_init_0 : decode c_AL_init 0 = .ok (.aload_n 0, 1) := by decide +kernel
theorem d_AL_init_1 : decode c_AL_init 1 = .ok (.invokespecial 1, 3) := by decide +kernel
theorem d_AL_init_4 : decode c_AL_init 4 = .ok (.aload_n 0, 1) := by decide +kernel
theorem d_AL_init_5 : decode c_AL_init 5 = .ok (.iconst 0, 1) := by decide +kernel
theorem d_AL_init_6 : decode c_AL_init 6 = .ok (.putfield 7, 3) := by decide +kernel
theorem d_AL_init_9 : decode c_AL_init 9 = .ok (.return_, 1) := by decide +kernel
theorem d_AC_init_0 : decode c_AC_init 0 = .ok (.aload_n 0, 1) := by decide +kernel
theorem d_AC_init_1 : decode c_AC_init 1 = .ok (.invokespecial 1, 3) := by decide +kernel
theorem d_AC_init_4 : decode c_AC_init 4 = .ok (.return_, 1) := by decide +kernel
theorem d_A_size_0 : decode c_A_size 0 = .ok (.aload_n 0, 1) := by decide +kernel
theorem d_A_size_1 : decode c_A_size 1 = .ok (.getfield 48, 3) := by decide +kernel
theorem d_A_size_4 : decode c_A_size 4 = .ok (.ireturn, 1) := by decide +kernel
theorem d_A_clear_0 : decode c_A_clear 0 = .ok (.aload_n 0, 1) := by decide +kernel
theorem d_A_clear_1 : decode c_A_clear 1 = .ok (.dup, 1) := by decide +kernel
theorem d_A_clear_2 : decode c_A_clear 2 = .ok (.getfield 63, 3) := by decide +kernel
theorem d_A_clear_5 : decode c_A_clear 5 = .ok (.iconst 1, 1) := by decide +kernel
theorem d_A_clear_6 : decode c_A_clear 6 = .ok (.iadd, 1) := by decide +kernel
theorem d_A_clear_7 : decode c_A_clear 7 = .ok (.putfield 63, 3) := by decide +kernel
theorem d_A_clear_10 : decode c_A_clear 10 = .ok (.aload_n 0, 1) := by decide +kernel
theorem d_A_clear_11 : decode c_A_clear 11 = .ok (.getfield 9, 3) := by decide +kernel
theorem d_A_clear_14 : decode c_A_clear 14 = .ok (.astore_n 1, 1) := by decide +kernel
theorem d_A_clear_15 : decode c_A_clear 15 = .ok (.aload_n 0, 1) := by decide +kernel
theorem d_A_clear_16 : decode c_A_clear 16 = .ok (.getfield 48, 3) := by decide +kernel
theorem d_A_clear_19 : decode c_A_clear 19 = .ok (.istore_n 2, 1) := by decide +kernel
theorem d_A_clear_20 : decode c_A_clear 20 = .ok (.aload_n 0, 1) := by decide +kernel
theorem d_A_clear_21 : decode c_A_clear 21 = .ok (.iconst 0, 1) := by decide +kernel
theorem d_A_clear_22 : decode c_A_clear 22 = .ok (.dup_x1, 1) := by decide +kernel
theorem d_A_clear_23 : decode c_A_clear 23 = .ok (.putfield 48, 3) := by decide +kernel
theorem d_A_clear_26 : decode c_A_clear 26 = .ok (.istore_n 3, 1) := by decide +kernel
theorem d_A_clear_27 : decode c_A_clear 27 = .ok (.iload_n 3, 1) := by decide +kernel
theorem d_A_clear_28 : decode c_A_clear 28 = .ok (.iload_n 2, 1) := by decide +kernel
theorem d_A_clear_29 : decode c_A_clear 29 = .ok (.if_icmp .ge 13, 3) := by decide +kernel
theorem d_A_clear_32 : decode c_A_clear 32 = .ok (.aload_n 1, 1) := by decide +kernel
theorem d_A_clear_33 : decode c_A_clear 33 = .ok (.iload_n 3, 1) := by decide +kernel
theorem d_A_clear_34 : decode c_A_clear 34 = .ok (.aconst_null, 1) := by decide +kernel
theorem d_A_clear_35 : decode c_A_clear 35 = .ok (.aastore, 1) := by decide +kernel
theorem d_A_clear_36 : decode c_A_clear 36 = .ok (.iinc 3 1, 3) := by decide +kernel
theorem d_A_clear_39 : decode c_A_clear 39 = .ok (.goto (-12), 3) := by decide +kernel
theorem d_A_clear_42 : decode c_A_clear 42 = .ok (.return_, 1) := by decide +kernel
theorem d_A_get_0 : decode c_A_get 0 = .ok (.iload_n 1, 1) := by decide +kernel
theorem d_A_get_1 : decode c_A_get 1 = .ok (.aload_n 0, 1) := by decide +kernel
theorem d_A_get_2 : decode c_A_get 2 = .ok (.getfield 48, 3) := by decide +kernel
theorem d_A_get_5 : decode c_A_get 5 = .ok (.invokestatic 118, 3) := by decide +kernel
theorem d_A_get_8 : decode c_A_get 8 = .ok (.pop, 1) := by decide +kernel
theorem d_A_get_9 : decode c_A_get 9 = .ok (.aload_n 0, 1) := by decide +kernel
theorem d_A_get_10 : decode c_A_get 10 = .ok (.iload_n 1, 1) := by decide +kernel
theorem d_A_get_11 : decode c_A_get 11 = .ok (.invokevirtual 123, 3) := by decide +kernel
theorem d_A_get_14 : decode c_A_get 14 = .ok (.areturn, 1) := by decide +kernel
theorem d_O_checkIndex_0 : decode c_O_checkIndex 0 = .ok (.iload_n 0, 1) := by decide +kernel
theorem d_O_checkIndex_1 : decode c_O_checkIndex 1 = .ok (.iload_n 1, 1) := by decide +kernel
theorem d_O_checkIndex_2 : decode c_O_checkIndex 2 = .ok (.aconst_null, 1) := by decide +kernel
theorem d_O_checkIndex_3 : decode c_O_checkIndex 3 = .ok (.invokestatic 105, 3) := by decide +kernel
theorem d_O_checkIndex_6 : decode c_O_checkIndex 6 = .ok (.ireturn, 1) := by decide +kernel
theorem d_P_checkIndex_0 : decode c_P_checkIndex 0 = .ok (.iload_n 0, 1) := by decide +kernel
theorem d_P_checkIndex_1 : decode c_P_checkIndex 1 = .ok (.ifCond .lt 8, 3) := by decide +kernel
theorem d_P_checkIndex_4 : decode c_P_checkIndex 4 = .ok (.iload_n 0, 1) := by decide +kernel
theorem d_P_checkIndex_5 : decode c_P_checkIndex 5 = .ok (.iload_n 1, 1) := by decide +kernel
theorem d_P_checkIndex_6 : decode c_P_checkIndex 6 = .ok (.if_icmp .lt 10, 3) := by decide +kernel
theorem d_P_checkIndex_9 : decode c_P_checkIndex 9 = .ok (.aload_n 2, 1) := by decide +kernel
theorem d_P_checkIndex_10 : decode c_P_checkIndex 10 = .ok (.iload_n 0, 1) := by decide +kernel
theorem d_P_checkIndex_11 : decode c_P_checkIndex 11 = .ok (.iload_n 1, 1) := by decide +kernel
theorem d_P_checkIndex_12 : decode c_P_checkIndex 12 = .ok (.invokestatic 95, 3) := by decide +kernel
theorem d_P_checkIndex_15 : decode c_P_checkIndex 15 = .ok (.athrow, 1) := by decide +kernel
theorem d_P_checkIndex_16 : decode c_P_checkIndex 16 = .ok (.iload_n 0, 1) := by decide +kernel
theorem d_P_checkIndex_17 : decode c_P_checkIndex 17 = .ok (.ireturn, 1) := by decide +kernel
theorem d_A_elementData_0 : decode c_A_elementData 0 = .ok (.aload_n 0, 1) := by decide +kernel
theorem d_A_elementData_1 : decode c_A_elementData 1 = .ok (.getfield 9, 3) := by decide +kernel
theorem d_A_elementData_4 : decode c_A_elementData 4 = .ok (.iload_n 1, 1) := by decide +kernel
theorem d_A_elementData_5 : decode c_A_elementData 5 = .ok (.aaload, 1) := by decide +kernel
theorem d_A_elementData_6 : decode c_A_elementData 6 = .ok (.areturn, 1) := by decide +kernel
theorem d_R_copyOf_0 : decode c_R_copyOf 0 = .ok (.iload_n 1, 1) := by decide +kernel
theorem d_R_copyOf_1 : decode c_R_copyOf 1 = .ok (.aload_n 0, 1) := by decide +kernel
theorem d_R_copyOf_2 : decode c_R_copyOf 2 = .ok (.arraylength, 1) := by decide +kernel
theorem d_R_copyOf_3 : decode c_R_copyOf 3 = .ok (.if_icmp .ne 11, 3) := by decide +kernel
theorem d_R_copyOf_6 : decode c_R_copyOf 6 = .ok (.aload_n 0, 1) := by decide +kernel
theorem d_R_copyOf_7 : decode c_R_copyOf 7 = .ok (.invokevirtual 316, 3) := by decide +kernel
theorem d_R_copyOf_10 : decode c_R_copyOf 10 = .ok (.checkcast 317, 3) := by decide +kernel
theorem d_R_copyOf_13 : decode c_R_copyOf 13 = .ok (.areturn, 1) := by decide +kernel
theorem d_R_copyOf_14 : decode c_R_copyOf 14 = .ok (.iload_n 1, 1) := by decide +kernel
theorem d_R_copyOf_15 : decode c_R_copyOf 15 = .ok (.newarray .int, 2) := by decide +kernel
theorem d_R_copyOf_17 : decode c_R_copyOf 17 = .ok (.astore_n 2, 1) := by decide +kernel
theorem d_R_copyOf_18 : decode c_R_copyOf 18 = .ok (.aload_n 0, 1) := by decide +kernel
theorem d_R_copyOf_19 : decode c_R_copyOf 19 = .ok (.iconst 0, 1) := by decide +kernel
theorem d_R_copyOf_20 : decode c_R_copyOf 20 = .ok (.aload_n 2, 1) := by decide +kernel
theorem d_R_copyOf_21 : decode c_R_copyOf 21 = .ok (.iconst 0, 1) := by decide +kernel
theorem d_R_copyOf_22 : decode c_R_copyOf 22 = .ok (.aload_n 0, 1) := by decide +kernel
theorem d_R_copyOf_23 : decode c_R_copyOf 23 = .ok (.arraylength, 1) := by decide +kernel
theorem d_R_copyOf_24 : decode c_R_copyOf 24 = .ok (.iload_n 1, 1) := by decide +kernel
theorem d_R_copyOf_25 : decode c_R_copyOf 25 = .ok (.invokestatic 304, 3) := by decide +kernel
theorem d_R_copyOf_28 : decode c_R_copyOf 28 = .ok (.invokestatic 150, 3) := by decide +kernel
theorem d_R_copyOf_31 : decode c_R_copyOf 31 = .ok (.aload_n 2, 1) := by decide +kernel
theorem d_R_copyOf_32 : decode c_R_copyOf 32 = .ok (.areturn, 1) := by decide +kernel
theorem d_A_set_0 : decode c_A_set 0 = .ok (.iload_n 1, 1) := by decide +kernel
theorem d_A_set_1 : decode c_A_set 1 = .ok (.aload_n 0, 1) := by decide +kernel
theorem d_A_set_2 : decode c_A_set 2 = .ok (.getfield 48, 3) := by decide +kernel
theorem d_A_set_5 : decode c_A_set 5 = .ok (.invokestatic 118, 3) := by decide +kernel
theorem d_A_set_8 : decode c_A_set 8 = .ok (.pop, 1) := by decide +kernel
theorem d_A_set_9 : decode c_A_set 9 = .ok (.aload_n 0, 1) := by decide +kernel
theorem d_A_set_10 : decode c_A_set 10 = .ok (.iload_n 1, 1) := by decide +kernel
theorem d_A_set_11 : decode c_A_set 11 = .ok (.invokevirtual 123, 3) := by decide +kernel
theorem d_A_set_14 : decode c_A_set 14 = .ok (.astore_n 3, 1) := by decide +kernel
theorem d_A_set_15 : decode c_A_set 15 = .ok (.aload_n 0, 1) := by decide +kernel
theorem d_A_set_16 : decode c_A_set 16 = .ok (.getfield 9, 3) := by decide +kernel
theorem d_A_set_19 : decode c_A_set 19 = .ok (.iload_n 1, 1) := by decide +kernel
theorem d_A_set_20 : decode c_A_set 20 = .ok (.aload_n 2, 1) := by decide +kernel
theorem d_A_set_21 : decode c_A_set 21 = .ok (.aastore, 1) := by decide +kernel
theorem d_A_set_22 : decode c_A_set 22 = .ok (.aload_n 3, 1) := by decide +kernel
theorem d_A_set_23 : decode c_A_set 23 = .ok (.areturn, 1) := by decide +kernel
theorem d_A_add_0 : decode c_A_add 0 = .ok (.aload_n 0, 1) := by decide +kernel
theorem d_A_add_1 : decode c_A_add 1 = .ok (.iload_n 1, 1) := by decide +kernel
theorem d_A_add_2 : decode c_A_add 2 = .ok (.invokevirtual 135, 3) := by decide +kernel
theorem d_A_add_5 : decode c_A_add 5 = .ok (.aload_n 0, 1) := by decide +kernel
theorem d_A_add_6 : decode c_A_add 6 = .ok (.dup, 1) := by decide +kernel
theorem d_A_add_7 : decode c_A_add 7 = .ok (.getfield 63, 3) := by decide +kernel
theorem d_A_add_10 : decode c_A_add 10 = .ok (.iconst 1, 1) := by decide +kernel
theorem d_A_add_11 : decode c_A_add 11 = .ok (.iadd, 1) := by decide +kernel
theorem d_A_add_12 : decode c_A_add 12 = .ok (.putfield 63, 3) := by decide +kernel
theorem d_A_add_15 : decode c_A_add 15 = .ok (.aload_n 0, 1) := by decide +kernel
theorem d_A_add_16 : decode c_A_add 16 = .ok (.getfield 48, 3) := by decide +kernel
theorem d_A_add_19 : decode c_A_add 19 = .ok (.dup, 1) := by decide +kernel
theorem d_A_add_20 : decode c_A_add 20 = .ok (.istore_n 3, 1) := by decide +kernel
theorem d_A_add_21 : decode c_A_add 21 = .ok (.aload_n 0, 1) := by decide +kernel
theorem d_A_add_22 : decode c_A_add 22 = .ok (.getfield 9, 3) := by decide +kernel
theorem d_A_add_25 : decode c_A_add 25 = .ok (.dup, 1) := by decide +kernel
theorem d_A_add_26 : decode c_A_add 26 = .ok (.astore 4, 2) := by decide +kernel
theorem d_A_add_28 : decode c_A_add 28 = .ok (.arraylength, 1) := by decide +kernel
theorem d_A_add_29 : decode c_A_add 29 = .ok (.if_icmp .ne 9, 3) := by decide +kernel
theorem d_A_add_32 : decode c_A_add 32 = .ok (.aload_n 0, 1) := by decide +kernel
theorem d_A_add_33 : decode c_A_add 33 = .ok (.invokevirtual 129, 3) := by decide +kernel
theorem d_A_add_36 : decode c_A_add 36 = .ok (.astore 4, 2) := by decide +kernel
theorem d_A_add_38 : decode c_A_add 38 = .ok (.aload 4, 2) := by decide +kernel
theorem d_A_add_40 : decode c_A_add 40 = .ok (.iload_n 1, 1) := by decide +kernel
theorem d_A_add_41 : decode c_A_add 41 = .ok (.aload 4, 2) := by decide +kernel
theorem d_A_add_43 : decode c_A_add 43 = .ok (.iload_n 1, 1) := by decide +kernel
theorem d_A_add_44 : decode c_A_add 44 = .ok (.iconst 1, 1) := by decide +kernel
theorem d_A_add_45 : decode c_A_add 45 = .ok (.iadd, 1) := by decide +kernel
theorem d_A_add_46 : decode c_A_add 46 = .ok (.iload_n 3, 1) := by decide +kernel
theorem d_A_add_47 : decode c_A_add 47 = .ok (.iload_n 1, 1) := by decide +kernel
theorem d_A_add_48 : decode c_A_add 48 = .ok (.isub, 1) := by decide +kernel
theorem d_A_add_49 : decode c_A_add 49 = .ok (.invokestatic 112, 3) := by decide +kernel
theorem d_A_add_52 : decode c_A_add 52 = .ok (.aload 4, 2) := by decide +kernel
theorem d_A_add_54 : decode c_A_add 54 = .ok (.iload_n 1, 1) := by decide +kernel
theorem d_A_add_55 : decode c_A_add 55 = .ok (.aload_n 2, 1) := by decide +kernel
theorem d_A_add_56 : decode c_A_add 56 = .ok (.aastore, 1) := by decide +kernel
theorem d_A_add_57 : decode c_A_add 57 = .ok (.aload_n 0, 1) := by decide +kernel
theorem d_A_add_58 : decode c_A_add 58 = .ok (.iload_n 3, 1) := by decide +kernel
theorem d_A_add_59 : decode c_A_add 59 = .ok (.iconst 1, 1) := by decide +kernel
theorem d_A_add_60 : decode c_A_add 60 = .ok (.iadd, 1) := by decide +kernel
theorem d_A_add_61 : decode c_A_add 61 = .ok (.putfield 48, 3) := by decide +kernel
theorem d_A_add_64 : decode c_A_add 64 = .ok (.return_, 1) := by decide +kernel
theorem d_A_rangeCheckForAdd_0 : decode c_A_rangeCheckForAdd 0 = .ok (.iload_n 1, 1) := by decide +kernel
theorem d_A_rangeCheckForAdd_1 : decode c_A_rangeCheckForAdd 1 = .ok (.aload_n 0, 1) := by decide +kernel
theorem d_A_rangeCheckForAdd_2 : decode c_A_rangeCheckForAdd 2 = .ok (.getfield 48, 3) := by decide +kernel
theorem d_A_rangeCheckForAdd_5 : decode c_A_rangeCheckForAdd 5 = .ok (.if_icmp .gt 7, 3) := by decide +kernel
theorem d_A_rangeCheckForAdd_8 : decode c_A_rangeCheckForAdd 8 = .ok (.iload_n 1, 1) := by decide +kernel
theorem d_A_rangeCheckForAdd_9 : decode c_A_rangeCheckForAdd 9 = .ok (.ifCond .ge 16, 3) := by decide +kernel
theorem d_A_rangeCheckForAdd_12 : decode c_A_rangeCheckForAdd 12 = .ok (.new 187, 3) := by decide +kernel
theorem d_A_rangeCheckForAdd_15 : decode c_A_rangeCheckForAdd 15 = .ok (.dup, 1) := by decide +kernel
theorem d_A_rangeCheckForAdd_16 : decode c_A_rangeCheckForAdd 16 = .ok (.aload_n 0, 1) := by decide +kernel
theorem d_A_rangeCheckForAdd_17 : decode c_A_rangeCheckForAdd 17 = .ok (.iload_n 1, 1) := by decide +kernel
theorem d_A_rangeCheckForAdd_18 : decode c_A_rangeCheckForAdd 18 = .ok (.invokevirtual 198, 3) := by decide +kernel
theorem d_A_rangeCheckForAdd_21 : decode c_A_rangeCheckForAdd 21 = .ok (.invokespecial 193, 3) := by decide +kernel
theorem d_A_rangeCheckForAdd_24 : decode c_A_rangeCheckForAdd 24 = .ok (.athrow, 1) := by decide +kernel
theorem d_A_rangeCheckForAdd_25 : decode c_A_rangeCheckForAdd 25 = .ok (.return_, 1) := by decide +kernel
theorem d_S_newLength_0 : decode c_S_newLength 0 = .ok (.iload_n 0, 1) := by decide +kernel
theorem d_S_newLength_1 : decode c_S_newLength 1 = .ok (.iload_n 1, 1) := by decide +kernel
theorem d_S_newLength_2 : decode c_S_newLength 2 = .ok (.iload_n 2, 1) := by decide +kernel
theorem d_S_newLength_3 : decode c_S_newLength 3 = .ok (.invokestatic 194, 3) := by decide +kernel
theorem d_S_newLength_6 : decode c_S_newLength 6 = .ok (.iadd, 1) := by decide +kernel
theorem d_S_newLength_7 : decode c_S_newLength 7 = .ok (.istore_n 3, 1) := by decide +kernel
theorem d_S_newLength_8 : decode c_S_newLength 8 = .ok (.iconst 0, 1) := by decide +kernel
theorem d_S_newLength_9 : decode c_S_newLength 9 = .ok (.iload_n 3, 1) := by decide +kernel
theorem d_S_newLength_10 : decode c_S_newLength 10 = .ok (.if_icmp .ge 11, 3) := by decide +kernel
theorem d_S_newLength_13 : decode c_S_newLength 13 = .ok (.iload_n 3, 1) := by decide +kernel
theorem d_S_newLength_14 : decode c_S_newLength 14 = .ok (.ldc 200, 2) := by decide +kernel
theorem d_S_newLength_16 : decode c_S_newLength 16 = .ok (.if_icmp .gt 5, 3) := by decide +kernel
theorem d_S_newLength_19 : decode c_S_newLength 19 = .ok (.iload_n 3, 1) := by decide +kernel
theorem d_S_newLength_20 : decode c_S_newLength 20 = .ok (.ireturn, 1) := by decide +kernel
theorem d_S_newLength_21 : decode c_S_newLength 21 = .ok (.iload_n 0, 1) := by decide +kernel
theorem d_S_newLength_22 : decode c_S_newLength 22 = .ok (.iload_n 1, 1) := by decide +kernel
theorem d_S_newLength_23 : decode c_S_newLength 23 = .ok (.invokestatic 201, 3) := by decide +kernel
theorem d_S_newLength_26 : decode c_S_newLength 26 = .ok (.ireturn, 1) := by decide +kernel
theorem d_A_grow_0 : decode c_A_grow 0 = .ok (.aload_n 0, 1) := by decide +kernel
theorem d_A_grow_1 : decode c_A_grow 1 = .ok (.aload_n 0, 1) := by decide +kernel
theorem d_A_grow_2 : decode c_A_grow 2 = .ok (.getfield 48, 3) := by decide +kernel
theorem d_A_grow_5 : decode c_A_grow 5 = .ok (.iconst 1, 1) := by decide +kernel
theorem d_A_grow_6 : decode c_A_grow 6 = .ok (.iadd, 1) := by decide +kernel
theorem d_A_grow_7 : decode c_A_grow 7 = .ok (.invokevirtual 69, 3) := by decide +kernel
theorem d_A_grow_10 : decode c_A_grow 10 = .ok (.areturn, 1) := by decide +kernel
theorem d_A_grow2_0 : decode c_A_grow2 0 = .ok (.aload_n 0, 1) := by decide +kernel
theorem d_A_grow2_1 : decode c_A_grow2 1 = .ok (.getfield 9, 3) := by decide +kernel
theorem d_A_grow2_4 : decode c_A_grow2 4 = .ok (.arraylength, 1) := by decide +kernel
theorem d_A_grow2_5 : decode c_A_grow2 5 = .ok (.istore_n 2, 1) := by decide +kernel
theorem d_A_grow2_6 : decode c_A_grow2 6 = .ok (.iload_n 2, 1) := by decide +kernel
theorem d_A_grow2_7 : decode c_A_grow2 7 = .ok (.ifCond .gt 13, 3) := by decide +kernel
theorem d_A_grow2_10 : decode c_A_grow2 10 = .ok (.aload_n 0, 1) := by decide +kernel
theorem d_A_grow2_11 : decode c_A_grow2 11 = .ok (.getfield 9, 3) := by decide +kernel
theorem d_A_grow2_14 : decode c_A_grow2 14 = .ok (.getstatic 39, 3) := by decide +kernel
theorem d_A_grow2_17 : decode c_A_grow2 17 = .ok (.if_acmp .eq 28, 3) := by decide +kernel
theorem d_A_grow2_20 : decode c_A_grow2 20 = .ok (.iload_n 2, 1) := by decide +kernel
theorem d_A_grow2_21 : decode c_A_grow2 21 = .ok (.iload_n 1, 1) := by decide +kernel
theorem d_A_grow2_22 : decode c_A_grow2 22 = .ok (.iload_n 2, 1) := by decide +kernel
theorem d_A_grow2_23 : decode c_A_grow2 23 = .ok (.isub, 1) := by decide +kernel
theorem d_A_grow2_24 : decode c_A_grow2 24 = .ok (.iload_n 2, 1) := by decide +kernel
theorem d_A_grow2_25 : decode c_A_grow2 25 = .ok (.iconst 1, 1) := by decide +kernel
theorem d_A_grow2_26 : decode c_A_grow2 26 = .ok (.ishr, 1) := by decide +kernel
theorem d_A_grow2_27 : decode c_A_grow2 27 = .ok (.invokestatic 73, 3) := by decide +kernel
theorem d_A_grow2_30 : decode c_A_grow2 30 = .ok (.istore_n 3, 1) := by decide +kernel
theorem d_A_grow2_31 : decode c_A_grow2 31 = .ok (.aload_n 0, 1) := by decide +kernel
theorem d_A_grow2_32 : decode c_A_grow2 32 = .ok (.aload_n 0, 1) := by decide +kernel
theorem d_A_grow2_33 : decode c_A_grow2 33 = .ok (.getfield 9, 3) := by decide +kernel
theorem d_A_grow2_36 : decode c_A_grow2 36 = .ok (.iload_n 3, 1) := by decide +kernel
theorem d_A_grow2_37 : decode c_A_grow2 37 = .ok (.invokestatic 66, 3) := by decide +kernel
theorem d_A_grow2_40 : decode c_A_grow2 40 = .ok (.dup_x1, 1) := by decide +kernel
theorem d_A_grow2_41 : decode c_A_grow2 41 = .ok (.putfield 9, 3) := by decide +kernel
theorem d_A_grow2_44 : decode c_A_grow2 44 = .ok (.areturn, 1) := by decide +kernel
theorem d_A_grow2_45 : decode c_A_grow2 45 = .ok (.aload_n 0, 1) := by decide +kernel
theorem d_A_grow2_46 : decode c_A_grow2 46 = .ok (.bipush 10, 2) := by decide +kernel
theorem d_A_grow2_48 : decode c_A_grow2 48 = .ok (.iload_n 1, 1) := by decide +kernel
theorem d_A_grow2_49 : decode c_A_grow2 49 = .ok (.invokestatic 79, 3) := by decide +kernel
theorem d_A_grow2_52 : decode c_A_grow2 52 = .ok (.anewarray 7, 3) := by decide +kernel
theorem d_A_grow2_55 : decode c_A_grow2 55 = .ok (.dup_x1, 1) := by decide +kernel
theorem d_A_grow2_56 : decode c_A_grow2 56 = .ok (.putfield 9, 3) := by decide +kernel
theorem d_A_grow2_59 : decode c_A_grow2 59 = .ok (.areturn, 1) := by decide +kernel
theorem d_R_copyOf3_0 : decode c_R_copyOf3 0 = .ok (.aload_n 0, 1) := by decide +kernel
theorem d_R_copyOf3_1 : decode c_R_copyOf3 1 = .ok (.iload_n 1, 1) := by decide +kernel
theorem d_R_copyOf3_2 : decode c_R_copyOf3 2 = .ok (.aload_n 0, 1) := by decide +kernel
theorem d_R_copyOf3_3 : decode c_R_copyOf3 3 = .ok (.invokevirtual 86, 3) := by decide +kernel
theorem d_R_copyOf3_6 : decode c_R_copyOf3 6 = .ok (.invokestatic 300, 3) := by decide +kernel
theorem d_R_copyOf3_9 : decode c_R_copyOf3 9 = .ok (.areturn, 1) := by decide +kernel
theorem d_R_copyOf4_0 : decode c_R_copyOf4 0 = .ok (.aload_n 2, 1) := by decide +kernel
theorem d_R_copyOf4_1 : decode c_R_copyOf4 1 = .ok (.ldc 110, 2) := by decide +kernel
theorem d_R_copyOf4_3 : decode c_R_copyOf4 3 = .ok (.if_acmp .ne 10, 3) := by decide +kernel
theorem d_R_copyOf4_6 : decode c_R_copyOf4 6 = .ok (.iload_n 1, 1) := by decide +kernel
theorem d_R_copyOf4_7 : decode c_R_copyOf4 7 = .ok (.anewarray 2, 3) := by decide +kernel
theorem d_R_copyOf4_10 : decode c_R_copyOf4 10 = .ok (.goto 14, 3) := by decide +kernel
theorem d_R_copyOf4_13 : decode c_R_copyOf4 13 = .ok (.aload_n 2, 1) := by decide +kernel
theorem d_R_copyOf4_14 : decode c_R_copyOf4 14 = .ok (.invokevirtual 90, 3) := by decide +kernel
theorem d_R_copyOf4_17 : decode c_R_copyOf4 17 = .ok (.iload_n 1, 1) := by decide +kernel
theorem d_R_copyOf4_18 : decode c_R_copyOf4 18 = .ok (.invokestatic 95, 3) := by decide +kernel
theorem d_R_copyOf4_21 : decode c_R_copyOf4 21 = .ok (.checkcast 110, 3) := by decide +kernel
theorem d_R_copyOf4_24 : decode c_R_copyOf4 24 = .ok (.astore_n 3, 1) := by decide +kernel
theorem d_R_copyOf4_25 : decode c_R_copyOf4 25 = .ok (.aload_n 0, 1) := by decide +kernel
theorem d_R_copyOf4_26 : decode c_R_copyOf4 26 = .ok (.iconst 0, 1) := by decide +kernel
theorem d_R_copyOf4_27 : decode c_R_copyOf4 27 = .ok (.aload_n 3, 1) := by decide +kernel
theorem d_R_copyOf4_28 : decode c_R_copyOf4 28 = .ok (.iconst 0, 1) := by decide +kernel
theorem d_R_copyOf4_29 : decode c_R_copyOf4 29 = .ok (.aload_n 0, 1) := by decide +kernel
theorem d_R_copyOf4_30 : decode c_R_copyOf4 30 = .ok (.arraylength, 1) := by decide +kernel
theorem d_R_copyOf4_31 : decode c_R_copyOf4 31 = .ok (.iload_n 1, 1) := by decide +kernel
theorem d_R_copyOf4_32 : decode c_R_copyOf4 32 = .ok (.invokestatic 304, 3) := by decide +kernel
theorem d_R_copyOf4_35 : decode c_R_copyOf4 35 = .ok (.invokestatic 150, 3) := by decide +kernel
theorem d_R_copyOf4_38 : decode c_R_copyOf4 38 = .ok (.aload_n 3, 1) := by decide +kernel
theorem d_R_copyOf4_39 : decode c_R_copyOf4 39 = .ok (.areturn, 1) := by decide +kernel
theorem d_A_remove_0 : decode c_A_remove 0 = .ok (.iload_n 1, 1) := by decide +kernel
theorem d_A_remove_1 : decode c_A_remove 1 = .ok (.aload_n 0, 1) := by decide +kernel
theorem d_A_remove_2 : decode c_A_remove 2 = .ok (.getfield 48, 3) := by decide +kernel
theorem d_A_remove_5 : decode c_A_remove 5 = .ok (.invokestatic 118, 3) := by decide +kernel
theorem d_A_remove_8 : decode c_A_remove 8 = .ok (.pop, 1) := by decide +kernel
theorem d_A_remove_9 : decode c_A_remove 9 = .ok (.aload_n 0, 1) := by decide +kernel
theorem d_A_remove_10 : decode c_A_remove 10 = .ok (.getfield 9, 3) := by decide +kernel
theorem d_A_remove_13 : decode c_A_remove 13 = .ok (.astore_n 2, 1) := by decide +kernel
theorem d_A_remove_14 : decode c_A_remove 14 = .ok (.aload_n 2, 1) := by decide +kernel
theorem d_A_remove_15 : decode c_A_remove 15 = .ok (.iload_n 1, 1) := by decide +kernel
theorem d_A_remove_16 : decode c_A_remove 16 = .ok (.aaload, 1) := by decide +kernel
theorem d_A_remove_17 : decode c_A_remove 17 = .ok (.astore_n 3, 1) := by decide +kernel
theorem d_A_remove_18 : decode c_A_remove 18 = .ok (.aload_n 0, 1) := by decide +kernel
theorem d_A_remove_19 : decode c_A_remove 19 = .ok (.aload_n 2, 1) := by decide +kernel
theorem d_A_remove_20 : decode c_A_remove 20 = .ok (.iload_n 1, 1) := by decide +kernel
theorem d_A_remove_21 : decode c_A_remove 21 = .ok (.invokevirtual 144, 3) := by decide +kernel
theorem d_A_remove_24 : decode c_A_remove 24 = .ok (.aload_n 3, 1) := by decide +kernel
theorem d_A_remove_25 : decode c_A_remove 25 = .ok (.areturn, 1) := by decide +kernel
theorem d_A_fastRemove_0 : decode c_A_fastRemove 0 = .ok (.aload_n 0, 1) := by decide +kernel
theorem d_A_fastRemove_1 : decode c_A_fastRemove 1 = .ok (.dup, 1) := by decide +kernel
theorem d_A_fastRemove_2 : decode c_A_fastRemove 2 = .ok (.getfield 63, 3) := by decide +kernel
theorem d_A_fastRemove_5 : decode c_A_fastRemove 5 = .ok (.iconst 1, 1) := by decide +kernel
theorem d_A_fastRemove_6 : decode c_A_fastRemove 6 = .ok (.iadd, 1) := by decide +kernel
theorem d_A_fastRemove_7 : decode c_A_fastRemove 7 = .ok (.putfield 63, 3) := by decide +kernel
theorem d_A_fastRemove_10 : decode c_A_fastRemove 10 = .ok (.aload_n 0, 1) := by decide +kernel
theorem d_A_fastRemove_11 : decode c_A_fastRemove 11 = .ok (.getfield 48, 3) := by decide +kernel
theorem d_A_fastRemove_14 : decode c_A_fastRemove 14 = .ok (.iconst 1, 1) := by decide +kernel
theorem d_A_fastRemove_15 : decode c_A_fastRemove 15 = .ok (.isub, 1) := by decide +kernel
theorem d_A_fastRemove_16 : decode c_A_fastRemove 16 = .ok (.dup, 1) := by decide +kernel
theorem d_A_fastRemove_17 : decode c_A_fastRemove 17 = .ok (.istore_n 3, 1) := by decide +kernel
theorem d_A_fastRemove_18 : decode c_A_fastRemove 18 = .ok (.iload_n 2, 1) := by decide +kernel
theorem d_A_fastRemove_19 : decode c_A_fastRemove 19 = .ok (.if_icmp .le 15, 3) := by decide +kernel
theorem d_A_fastRemove_22 : decode c_A_fastRemove 22 = .ok (.aload_n 1, 1) := by decide +kernel
theorem d_A_fastRemove_23 : decode c_A_fastRemove 23 = .ok (.iload_n 2, 1) := by decide +kernel
theorem d_A_fastRemove_24 : decode c_A_fastRemove 24 = .ok (.iconst 1, 1) := by decide +kernel
theorem d_A_fastRemove_25 : decode c_A_fastRemove 25 = .ok (.iadd, 1) := by decide +kernel
theorem d_A_fastRemove_26 : decode c_A_fastRemove 26 = .ok (.aload_n 1, 1) := by decide +kernel
theorem d_A_fastRemove_27 : decode c_A_fastRemove 27 = .ok (.iload_n 2, 1) := by decide +kernel
theorem d_A_fastRemove_28 : decode c_A_fastRemove 28 = .ok (.iload_n 3, 1) := by decide +kernel
theorem d_A_fastRemove_29 : decode c_A_fastRemove 29 = .ok (.iload_n 2, 1) := by decide +kernel
theorem d_A_fastRemove_30 : decode c_A_fastRemove 30 = .ok (.isub, 1) := by decide +kernel
theorem d_A_fastRemove_31 : decode c_A_fastRemove 31 = .ok (.invokestatic 112, 3) := by decide +kernel
theorem d_A_fastRemove_34 : decode c_A_fastRemove 34 = .ok (.aload_n 1, 1) := by decide +kernel
theorem d_A_fastRemove_35 : decode c_A_fastRemove 35 = .ok (.aload_n 0, 1) := by decide +kernel
theorem d_A_fastRemove_36 : decode c_A_fastRemove 36 = .ok (.iload_n 3, 1) := by decide +kernel
theorem d_A_fastRemove_37 : decode c_A_fastRemove 37 = .ok (.dup_x1, 1) := by decide +kernel
theorem d_A_fastRemove_38 : decode c_A_fastRemove 38 = .ok (.putfield 48, 3) := by decide +kernel
theorem d_A_fastRemove_41 : decode c_A_fastRemove 41 = .ok (.aconst_null, 1) := by decide +kernel
theorem d_A_fastRemove_42 : decode c_A_fastRemove 42 = .ok (.aastore, 1) := by decide +kernel
theorem d_A_fastRemove_43 : decode c_A_fastRemove 43 = .ok (.return_, 1) := by decide +kernel
theorem d_A_isEmpty_0 : decode c_A_isEmpty 0 = .ok (.aload_n 0, 1) := by decide +kernel
theorem d_A_isEmpty_1 : decode c_A_isEmpty 1 = .ok (.getfield 48, 3) := by decide +kernel
theorem d_A_isEmpty_4 : decode c_A_isEmpty 4 = .ok (.ifCond .ne 7, 3) := by decide +kernel
theorem d_A_isEmpty_7 : decode c_A_isEmpty 7 = .ok (.iconst 1, 1) := by decide +kernel
theorem d_A_isEmpty_8 : decode c_A_isEmpty 8 = .ok (.goto 4, 3) := by decide +kernel
theorem d_A_isEmpty_11 : decode c_A_isEmpty 11 = .ok (.iconst 0, 1) := by decide +kernel
theorem d_A_isEmpty_12 : decode c_A_isEmpty 12 = .ok (.ireturn, 1) := by decide +kernel
end
section
/-! decode rows, by program -/
theorem d_X_meets_0 : decode c_X_meets 0 = .ok (.aload_n 0, 1) := by decide +kernel
theorem d_X_meets_1 : decode c_X_meets 1 = .ok (.getfield 15, 3) := by decide +kernel
theorem d_X_meets_4 : decode c_X_meets 4 = .ok (.aload_n 1, 1) := by decide +kernel
theorem d_X_meets_5 : decode c_X_meets 5 = .ok (.getfield 21, 3) := by decide +kernel
theorem d_X_meets_8 : decode c_X_meets 8 = .ok (.if_icmp .gt 40, 3) := by decide +kernel
theorem d_X_meets_11 : decode c_X_meets 11 = .ok (.aload_n 1, 1) := by decide +kernel
theorem d_X_meets_12 : decode c_X_meets 12 = .ok (.getfield 15, 3) := by decide +kernel
theorem d_X_meets_15 : decode c_X_meets 15 = .ok (.aload_n 0, 1) := by decide +kernel
theorem d_X_meets_16 : decode c_X_meets 16 = .ok (.getfield 21, 3) := by decide +kernel
theorem d_X_meets_19 : decode c_X_meets 19 = .ok (.if_icmp .gt 29, 3) := by decide +kernel
theorem d_X_meets_22 : decode c_X_meets 22 = .ok (.aload_n 0, 1) := by decide +kernel
theorem d_X_meets_23 : decode c_X_meets 23 = .ok (.getfield 18, 3) := by decide +kernel
theorem d_X_meets_26 : decode c_X_meets 26 = .ok (.aload_n 1, 1) := by decide +kernel
theorem d_X_meets_27 : decode c_X_meets 27 = .ok (.getfield 24, 3) := by decide +kernel
theorem d_X_meets_30 : decode c_X_meets 30 = .ok (.if_icmp .gt 18, 3) := by decide +kernel
theorem d_X_meets_33 : decode c_X_meets 33 = .ok (.aload_n 1, 1) := by decide +kernel
theorem d_X_meets_34 : decode c_X_meets 34 = .ok (.getfield 18, 3) := by decide +kernel
theorem d_X_meets_37 : decode c_X_meets 37 = .ok (.aload_n 0, 1) := by decide +kernel
theorem d_X_meets_38 : decode c_X_meets 38 = .ok (.getfield 24, 3) := by decide +kernel
theorem d_X_meets_41 : decode c_X_meets 41 = .ok (.if_icmp .gt 7, 3) := by decide +kernel
theorem d_X_meets_44 : decode c_X_meets 44 = .ok (.iconst 1, 1) := by decide +kernel
theorem d_X_meets_45 : decode c_X_meets 45 = .ok (.goto 4, 3) := by decide +kernel
theorem d_X_meets_48 : decode c_X_meets 48 = .ok (.iconst 0, 1) := by decide +kernel
theorem d_X_meets_49 : decode c_X_meets 49 = .ok (.ireturn, 1) := by decide +kernel
theorem d_X_init_0 : decode c_X_init 0 = .ok (.aload_n 0, 1) := by decide +kernel
theorem d_X_init_1 : decode c_X_init 1 = .ok (.invokespecial 3, 3) := by decide +kernel
theorem d_X_init_4 : decode c_X_init 4 = .ok (.aload_n 0, 1) := by decide +kernel
theorem d_X_init_5 : decode c_X_init 5 = .ok (.iload_n 1, 1) := by decide +kernel
theorem d_X_init_6 : decode c_X_init 6 = .ok (.putfield 9, 3) := by decide +kernel
theorem d_X_init_9 : decode c_X_init 9 = .ok (.aload_n 0, 1) := by decide +kernel
theorem d_X_init_10 : decode c_X_init 10 = .ok (.iload_n 2, 1) := by decide +kernel
theorem d_X_init_11 : decode c_X_init 11 = .ok (.putfield 15, 3) := by decide +kernel
theorem d_X_init_14 : decode c_X_init 14 = .ok (.aload_n 0, 1) := by decide +kernel
theorem d_X_init_15 : decode c_X_init 15 = .ok (.iload_n 3, 1) := by decide +kernel
theorem d_X_init_16 : decode c_X_init 16 = .ok (.putfield 18, 3) := by decide +kernel
theorem d_X_init_19 : decode c_X_init 19 = .ok (.aload_n 0, 1) := by decide +kernel
theorem d_X_init_20 : decode c_X_init 20 = .ok (.iload 4, 2) := by decide +kernel
theorem d_X_init_22 : decode c_X_init 22 = .ok (.putfield 21, 3) := by decide +kernel
theorem d_X_init_25 : decode c_X_init 25 = .ok (.aload_n 0, 1) := by decide +kernel
theorem d_X_init_26 : decode c_X_init 26 = .ok (.iload 5, 2) := by decide +kernel
theorem d_X_init_28 : decode c_X_init 28 = .ok (.putfield 24, 3) := by decide +kernel
theorem d_X_init_31 : decode c_X_init 31 = .ok (.return_, 1) := by decide +kernel
theorem d_X_liesIn_0 : decode c_X_liesIn 0 = .ok (.aload_n 1, 1) := by decide +kernel
theorem d_X_liesIn_1 : decode c_X_liesIn 1 = .ok (.getfield 15, 3) := by decide +kernel
theorem d_X_liesIn_4 : decode c_X_liesIn 4 = .ok (.aload_n 0, 1) := by decide +kernel
theorem d_X_liesIn_5 : decode c_X_liesIn 5 = .ok (.getfield 15, 3) := by decide +kernel
theorem d_X_liesIn_8 : decode c_X_liesIn 8 = .ok (.if_icmp .gt 40, 3) := by decide +kernel
theorem d_X_liesIn_11 : decode c_X_liesIn 11 = .ok (.aload_n 0, 1) := by decide +kernel
theorem d_X_liesIn_12 : decode c_X_liesIn 12 = .ok (.getfield 21, 3) := by decide +kernel
theorem d_X_liesIn_15 : decode c_X_liesIn 15 = .ok (.aload_n 1, 1) := by decide +kernel
theorem d_X_liesIn_16 : decode c_X_liesIn 16 = .ok (.getfield 21, 3) := by decide +kernel
theorem d_X_liesIn_19 : decode c_X_liesIn 19 = .ok (.if_icmp .gt 29, 3) := by decide +kernel
theorem d_X_liesIn_22 : decode c_X_liesIn 22 = .ok (.aload_n 1, 1) := by decide +kernel
theorem d_X_liesIn_23 : decode c_X_liesIn 23 = .ok (.getfield 18, 3) := by decide +kernel
theorem d_X_liesIn_26 : decode c_X_liesIn 26 = .ok (.aload_n 0, 1) := by decide +kernel
theorem d_X_liesIn_27 : decode c_X_liesIn 27 = .ok (.getfield 18, 3) := by decide +kernel
theorem d_X_liesIn_30 : decode c_X_liesIn 30 = .ok (.if_icmp .gt 18, 3) := by decide +kernel
theorem d_X_liesIn_33 : decode c_X_liesIn 33 = .ok (.aload_n 0, 1) := by decide +kernel
theorem d_X_liesIn_34 : decode c_X_liesIn 34 = .ok (.getfield 24, 3) := by decide +kernel
theorem d_X_liesIn_37 : decode c_X_liesIn 37 = .ok (.aload_n 1, 1) := by decide +kernel
theorem d_X_liesIn_38 : decode c_X_liesIn 38 = .ok (.getfield 24, 3) := by decide +kernel
theorem d_X_liesIn_41 : decode c_X_liesIn 41 = .ok (.if_icmp .gt 7, 3) := by decide +kernel
theorem d_X_liesIn_44 : decode c_X_liesIn 44 = .ok (.iconst 1, 1) := by decide +kernel
theorem d_X_liesIn_45 : decode c_X_liesIn 45 = .ok (.goto 4, 3) := by decide +kernel
theorem d_X_liesIn_48 : decode c_X_liesIn 48 = .ok (.iconst 0, 1) := by decide +kernel
theorem d_X_liesIn_49 : decode c_X_liesIn 49 = .ok (.ireturn, 1) := by decide +kernel
theorem d_X_distanceFrom_0 : decode c_X_distanceFrom 0 = .ok (.iload_n 1, 1) := by decide +kernel
theorem d_X_distanceFrom_1 : decode c_X_distanceFrom 1 = .ok (.aload_n 0, 1) := by decide +kernel
theorem d_X_distanceFrom_2 : decode c_X_distanceFrom 2 = .ok (.getfield 15, 3) := by decide +kernel
theorem d_X_distanceFrom_5 : decode c_X_distanceFrom 5 = .ok (.aload_n 0, 1) := by decide +kernel
theorem d_X_distanceFrom_6 : decode c_X_distanceFrom 6 = .ok (.getfield 21, 3) := by decide +kernel
theorem d_X_distanceFrom_9 : decode c_X_distanceFrom 9 = .ok (.invokestatic 27, 3) := by decide +kernel
theorem d_X_distanceFrom_12 : decode c_X_distanceFrom 12 = .ok (.lstore_n 3, 1) := by decide +kernel
theorem d_X_distanceFrom_13 : decode c_X_distanceFrom 13 = .ok (.iload_n 2, 1) := by decide +kernel
theorem d_X_distanceFrom_14 : decode c_X_distanceFrom 14 = .ok (.aload_n 0, 1) := by decide +kernel
theorem d_X_distanceFrom_15 : decode c_X_distanceFrom 15 = .ok (.getfield 18, 3) := by decide +kernel
theorem d_X_distanceFrom_18 : decode c_X_distanceFrom 18 = .ok (.aload_n 0, 1) := by decide +kernel
theorem d_X_distanceFrom_19 : decode c_X_distanceFrom 19 = .ok (.getfield 24, 3) := by decide +kernel
theorem d_X_distanceFrom_22 : decode c_X_distanceFrom 22 = .ok (.invokestatic 27, 3) := by decide +kernel
theorem d_X_distanceFrom_25 : decode c_X_distanceFrom 25 = .ok (.lstore 5, 2) := by decide +kernel
theorem d_X_distanceFrom_27 : decode c_X_distanceFrom 27 = .ok (.lload_n 3, 1) := by decide +kernel
theorem d_X_distanceFrom_28 : decode c_X_distanceFrom 28 = .ok (.lload_n 3, 1) := by decide +kernel
theorem d_X_distanceFrom_29 : decode c_X_distanceFrom 29 = .ok (.lmul, 1) := by decide +kernel
theorem d_X_distanceFrom_30 : decode c_X_distanceFrom 30 = .ok (.lload 5, 2) := by decide +kernel
theorem d_X_distanceFrom_32 : decode c_X_distanceFrom 32 = .ok (.lload 5, 2) := by decide +kernel
theorem d_X_distanceFrom_34 : decode c_X_distanceFrom 34 = .ok (.lmul, 1) := by decide +kernel
theorem d_X_distanceFrom_35 : decode c_X_distanceFrom 35 = .ok (.ladd, 1) := by decide +kernel
theorem d_X_distanceFrom_36 : decode c_X_distanceFrom 36 = .ok (.lreturn, 1) := by decide +kernel
theorem d_X_wayTo_0 : decode c_X_wayTo 0 = .ok (.iload_n 0, 1) := by decide +kernel
theorem d_X_wayTo_1 : decode c_X_wayTo 1 = .ok (.iload_n 1, 1) := by decide +kernel
theorem d_X_wayTo_2 : decode c_X_wayTo 2 = .ok (.if_icmp .ge 9, 3) := by decide +kernel
theorem d_X_wayTo_5 : decode c_X_wayTo 5 = .ok (.iload_n 1, 1) := by decide +kernel
theorem d_X_wayTo_6 : decode c_X_wayTo 6 = .ok (.i2l, 1) := by decide +kernel
theorem d_X_wayTo_7 : decode c_X_wayTo 7 = .ok (.iload_n 0, 1) := by decide +kernel
theorem d_X_wayTo_8 : decode c_X_wayTo 8 = .ok (.i2l, 1) := by decide +kernel
theorem d_X_wayTo_9 : decode c_X_wayTo 9 = .ok (.lsub, 1) := by decide +kernel
theorem d_X_wayTo_10 : decode c_X_wayTo 10 = .ok (.lreturn, 1) := by decide +kernel
theorem d_X_wayTo_11 : decode c_X_wayTo 11 = .ok (.iload_n 0, 1) := by decide +kernel
theorem d_X_wayTo_12 : decode c_X_wayTo 12 = .ok (.iload_n 2, 1) := by decide +kernel
theorem d_X_wayTo_13 : decode c_X_wayTo 13 = .ok (.if_icmp .le 11, 3) := by decide +kernel
theorem d_X_wayTo_16 : decode c_X_wayTo 16 = .ok (.iload_n 0, 1) := by decide +kernel
theorem d_X_wayTo_17 : decode c_X_wayTo 17 = .ok (.i2l, 1) := by decide +kernel
theorem d_X_wayTo_18 : decode c_X_wayTo 18 = .ok (.iload_n 2, 1) := by decide +kernel
theorem d_X_wayTo_19 : decode c_X_wayTo 19 = .ok (.i2l, 1) := by decide +kernel
theorem d_X_wayTo_20 : decode c_X_wayTo 20 = .ok (.lsub, 1) := by decide +kernel
theorem d_X_wayTo_21 : decode c_X_wayTo 21 = .ok (.goto 4, 3) := by decide +kernel
theorem d_X_wayTo_24 : decode c_X_wayTo 24 = .ok (.lconst 0, 1) := by decide +kernel
theorem d_X_wayTo_25 : decode c_X_wayTo 25 = .ok (.lreturn, 1) := by decide +kernel
theorem d_X_bound_0 : decode c_X_bound 0 = .ok (.iload_n 1, 1) := by decide +kernel
theorem d_X_bound_1 : decode c_X_bound 1 = .ok (.tableswitch 42 0 2 #[27, 32, 37], 27) := by decide +kernel
theorem d_X_bound_28 : decode c_X_bound 28 = .ok (.aload_n 0, 1) := by decide +kernel
theorem d_X_bound_29 : decode c_X_bound 29 = .ok (.getfield 15, 3) := by decide +kernel
theorem d_X_bound_32 : decode c_X_bound 32 = .ok (.ireturn, 1) := by decide +kernel
theorem d_X_bound_33 : decode c_X_bound 33 = .ok (.aload_n 0, 1) := by decide +kernel
theorem d_X_bound_34 : decode c_X_bound 34 = .ok (.getfield 18, 3) := by decide +kernel
theorem d_X_bound_37 : decode c_X_bound 37 = .ok (.ireturn, 1) := by decide +kernel
theorem d_X_bound_38 : decode c_X_bound 38 = .ok (.aload_n 0, 1) := by decide +kernel
theorem d_X_bound_39 : decode c_X_bound 39 = .ok (.getfield 21, 3) := by decide +kernel
theorem d_X_bound_42 : decode c_X_bound 42 = .ok (.ireturn, 1) := by decide +kernel
theorem d_X_bound_43 : decode c_X_bound 43 = .ok (.aload_n 0, 1) := by decide +kernel
theorem d_X_bound_44 : decode c_X_bound 44 = .ok (.getfield 24, 3) := by decide +kernel
theorem d_X_bound_47 : decode c_X_bound 47 = .ok (.ireturn, 1) := by decide +kernel
theorem d_B_init_0 : decode c_B_init 0 = .ok (.aload_n 0, 1) := by decide +kernel
theorem d_B_init_1 : decode c_B_init 1 = .ok (.invokespecial 1, 3) := by decide +kernel
theorem d_B_init_4 : decode c_B_init 4 = .ok (.aload_n 0, 1) := by decide +kernel
theorem d_B_init_5 : decode c_B_init 5 = .ok (.new 7, 3) := by decide +kernel
theorem d_B_init_8 : decode c_B_init 8 = .ok (.dup, 1) := by decide +kernel
theorem d_B_init_9 : decode c_B_init 9 = .ok (.invokespecial 9, 3) := by decide +kernel
theorem d_B_init_12 : decode c_B_init 12 = .ok (.putfield 10, 3) := by decide +kernel
theorem d_B_init_15 : decode c_B_init 15 = .ok (.aload_n 0, 1) := by decide +kernel
theorem d_B_init_16 : decode c_B_init 16 = .ok (.bipush 16, 2) := by decide +kernel
theorem d_B_init_18 : decode c_B_init 18 = .ok (.newarray .int, 2) := by decide +kernel
theorem d_B_init_20 : decode c_B_init 20 = .ok (.putfield 16, 3) := by decide +kernel
theorem d_B_init_23 : decode c_B_init 23 = .ok (.aload_n 0, 1) := by decide +kernel
theorem d_B_init_24 : decode c_B_init 24 = .ok (.iconst 0, 1) := by decide +kernel
theorem d_B_init_25 : decode c_B_init 25 = .ok (.putfield 20, 3) := by decide +kernel
theorem d_B_init_28 : decode c_B_init 28 = .ok (.aload_n 0, 1) := by decide +kernel
theorem d_B_init_29 : decode c_B_init 29 = .ok (.bipush 16, 2) := by decide +kernel
theorem d_B_init_31 : decode c_B_init 31 = .ok (.newarray .long, 2) := by decide +kernel
theorem d_B_init_33 : decode c_B_init 33 = .ok (.putfield 24, 3) := by decide +kernel
theorem d_B_init_36 : decode c_B_init 36 = .ok (.return_, 1) := by decide +kernel
theorem d_B_clear_0 : decode c_B_clear 0 = .ok (.aload_n 0, 1) := by decide +kernel
theorem d_B_clear_1 : decode c_B_clear 1 = .ok (.getfield 10, 3) := by decide +kernel
theorem d_B_clear_4 : decode c_B_clear 4 = .ok (.invokevirtual 61, 3) := by decide +kernel
theorem d_B_clear_7 : decode c_B_clear 7 = .ok (.istore_n 1, 1) := by decide +kernel
theorem d_B_clear_8 : decode c_B_clear 8 = .ok (.aload_n 0, 1) := by decide +kernel
theorem d_B_clear_9 : decode c_B_clear 9 = .ok (.getfield 10, 3) := by decide +kernel
theorem d_B_clear_12 : decode c_B_clear 12 = .ok (.invokevirtual 65, 3) := by decide +kernel
theorem d_B_clear_15 : decode c_B_clear 15 = .ok (.iload_n 1, 1) := by decide +kernel
theorem d_B_clear_16 : decode c_B_clear 16 = .ok (.ireturn, 1) := by decide +kernel
theorem d_B_pairs_0 : decode c_B_pairs 0 = .ok (.aload_n 0, 1) := by decide +kernel
theorem d_B_pairs_1 : decode c_B_pairs 1 = .ok (.iconst 0, 1) := by decide +kernel
theorem d_B_pairs_2 : decode c_B_pairs 2 = .ok (.putfield 20, 3) := by decide +kernel
theorem d_B_pairs_5 : decode c_B_pairs 5 = .ok (.iconst 0, 1) := by decide +kernel
theorem d_B_pairs_6 : decode c_B_pairs 6 = .ok (.istore_n 1, 1) := by decide +kernel
theorem d_B_pairs_7 : decode c_B_pairs 7 = .ok (.iconst 0, 1) := by decide +kernel
theorem d_B_pairs_8 : decode c_B_pairs 8 = .ok (.istore_n 2, 1) := by decide +kernel
theorem d_B_pairs_9 : decode c_B_pairs 9 = .ok (.iload_n 2, 1) := by decide +kernel
theorem d_B_pairs_10 : decode c_B_pairs 10 = .ok (.aload_n 0, 1) := by decide +kernel
theorem d_B_pairs_11 : decode c_B_pairs 11 = .ok (.getfield 10, 3) := by decide +kernel
theorem d_B_pairs_14 : decode c_B_pairs 14 = .ok (.invokevirtual 61, 3) := by decide +kernel
theorem d_B_pairs_17 : decode c_B_pairs 17 = .ok (.if_icmp .ge 94, 3) := by decide +kernel
theorem d_B_pairs_20 : decode c_B_pairs 20 = .ok (.aload_n 0, 1) := by decide +kernel
theorem d_B_pairs_21 : decode c_B_pairs 21 = .ok (.getfield 10, 3) := by decide +kernel
theorem d_B_pairs_24 : decode c_B_pairs 24 = .ok (.iload_n 2, 1) := by decide +kernel
theorem d_B_pairs_25 : decode c_B_pairs 25 = .ok (.invokevirtual 75, 3) := by decide +kernel
theorem d_B_pairs_28 : decode c_B_pairs 28 = .ok (.checkcast 36, 3) := by decide +kernel
theorem d_B_pairs_31 : decode c_B_pairs 31 = .ok (.astore_n 3, 1) := by decide +kernel
theorem d_B_pairs_32 : decode c_B_pairs 32 = .ok (.iload_n 2, 1) := by decide +kernel
theorem d_B_pairs_33 : decode c_B_pairs 33 = .ok (.iconst 1, 1) := by decide +kernel
theorem d_B_pairs_34 : decode c_B_pairs 34 = .ok (.iadd, 1) := by decide +kernel
theorem d_B_pairs_35 : decode c_B_pairs 35 = .ok (.istore 4, 2) := by decide +kernel
theorem d_B_pairs_37 : decode c_B_pairs 37 = .ok (.iload 4, 2) := by decide +kernel
theorem d_B_pairs_39 : decode c_B_pairs 39 = .ok (.aload_n 0, 1) := by decide +kernel
theorem d_B_pairs_40 : decode c_B_pairs 40 = .ok (.getfield 10, 3) := by decide +kernel
theorem d_B_pairs_43 : decode c_B_pairs 43 = .ok (.invokevirtual 61, 3) := by decide +kernel
theorem d_B_pairs_46 : decode c_B_pairs 46 = .ok (.if_icmp .ge 59, 3) := by decide +kernel
theorem d_B_pairs_49 : decode c_B_pairs 49 = .ok (.aload_n 0, 1) := by decide +kernel
theorem d_B_pairs_50 : decode c_B_pairs 50 = .ok (.getfield 10, 3) := by decide +kernel
theorem d_B_pairs_53 : decode c_B_pairs 53 = .ok (.iload 4, 2) := by decide +kernel
theorem d_B_pairs_55 : decode c_B_pairs 55 = .ok (.invokevirtual 75, 3) := by decide +kernel
theorem d_B_pairs_58 : decode c_B_pairs 58 = .ok (.checkcast 36, 3) := by decide +kernel
theorem d_B_pairs_61 : decode c_B_pairs 61 = .ok (.astore 5, 2) := by decide +kernel
theorem d_B_pairs_63 : decode c_B_pairs 63 = .ok (.aload_n 3, 1) := by decide +kernel
theorem d_B_pairs_64 : decode c_B_pairs 64 = .ok (.aload 5, 2) := by decide +kernel
theorem d_B_pairs_66 : decode c_B_pairs 66 = .ok (.invokevirtual 114, 3) := by decide +kernel
theorem d_B_pairs_69 : decode c_B_pairs 69 = .ok (.ifCond .eq 30, 3) := by decide +kernel
theorem d_B_pairs_72 : decode c_B_pairs 72 = .ok (.iload_n 1, 1) := by decide +kernel
theorem d_B_pairs_73 : decode c_B_pairs 73 = .ok (.sipush 2048, 3) := by decide +kernel
theorem d_B_pairs_76 : decode c_B_pairs 76 = .ok (.if_icmp .ge 20, 3) := by decide +kernel
theorem d_B_pairs_79 : decode c_B_pairs 79 = .ok (.aload_n 0, 1) := by decide +kernel
theorem d_B_pairs_80 : decode c_B_pairs 80 = .ok (.aload_n 3, 1) := by decide +kernel
theorem d_B_pairs_81 : decode c_B_pairs 81 = .ok (.getfield 82, 3) := by decide +kernel
theorem d_B_pairs_84 : decode c_B_pairs 84 = .ok (.invokevirtual 85, 3) := by decide +kernel
theorem d_B_pairs_87 : decode c_B_pairs 87 = .ok (.aload_n 0, 1) := by decide +kernel
theorem d_B_pairs_88 : decode c_B_pairs 88 = .ok (.aload 5, 2) := by decide +kernel
theorem d_B_pairs_90 : decode c_B_pairs 90 = .ok (.getfield 82, 3) := by decide +kernel
theorem d_B_pairs_93 : decode c_B_pairs 93 = .ok (.invokevirtual 85, 3) := by decide +kernel
theorem d_B_pairs_96 : decode c_B_pairs 96 = .ok (.iinc 1 1, 3) := by decide +kernel
theorem d_B_pairs_99 : decode c_B_pairs 99 = .ok (.iinc 4 1, 3) := by decide +kernel
theorem d_B_pairs_102 : decode c_B_pairs 102 = .ok (.goto (-65), 3) := by decide +kernel
theorem d_B_pairs_105 : decode c_B_pairs 105 = .ok (.iinc 2 1, 3) := by decide +kernel
theorem d_B_pairs_108 : decode c_B_pairs 108 = .ok (.goto (-99), 3) := by decide +kernel
theorem d_B_pairs_111 : decode c_B_pairs 111 = .ok (.iload_n 1, 1) := by decide +kernel
theorem d_B_pairs_112 : decode c_B_pairs 112 = .ok (.ireturn, 1) := by decide +kernel
theorem d_B_append_0 : decode c_B_append 0 = .ok (.aload_n 0, 1) := by decide +kernel
theorem d_B_append_1 : decode c_B_append 1 = .ok (.aload_n 0, 1) := by decide +kernel
theorem d_B_append_2 : decode c_B_append 2 = .ok (.getfield 20, 3) := by decide +kernel
theorem d_B_append_5 : decode c_B_append 5 = .ok (.iconst 1, 1) := by decide +kernel
theorem d_B_append_6 : decode c_B_append 6 = .ok (.iadd, 1) := by decide +kernel
theorem d_B_append_7 : decode c_B_append 7 = .ok (.invokevirtual 100, 3) := by decide +kernel
theorem d_B_append_10 : decode c_B_append 10 = .ok (.aload_n 0, 1) := by decide +kernel
theorem d_B_append_11 : decode c_B_append 11 = .ok (.getfield 20, 3) := by decide +kernel
theorem d_B_append_14 : decode c_B_append 14 = .ok (.aload_n 0, 1) := by decide +kernel
theorem d_B_append_15 : decode c_B_append 15 = .ok (.getfield 16, 3) := by decide +kernel
theorem d_B_append_18 : decode c_B_append 18 = .ok (.arraylength, 1) := by decide +kernel
theorem d_B_append_19 : decode c_B_append 19 = .ok (.if_icmp .ge 23, 3) := by decide +kernel
theorem d_B_append_22 : decode c_B_append 22 = .ok (.aload_n 0, 1) := by decide +kernel
theorem d_B_append_23 : decode c_B_append 23 = .ok (.getfield 16, 3) := by decide +kernel
theorem d_B_append_26 : decode c_B_append 26 = .ok (.aload_n 0, 1) := by decide +kernel
theorem d_B_append_27 : decode c_B_append 27 = .ok (.getfield 20, 3) := by decide +kernel
theorem d_B_append_30 : decode c_B_append 30 = .ok (.iload_n 1, 1) := by decide +kernel
theorem d_B_append_31 : decode c_B_append 31 = .ok (.iastore, 1) := by decide +kernel
theorem d_B_append_32 : decode c_B_append 32 = .ok (.aload_n 0, 1) := by decide +kernel
theorem d_B_append_33 : decode c_B_append 33 = .ok (.dup, 1) := by decide +kernel
theorem d_B_append_34 : decode c_B_append 34 = .ok (.getfield 20, 3) := by decide +kernel
theorem d_B_append_37 : decode c_B_append 37 = .ok (.iconst 1, 1) := by decide +kernel
theorem d_B_append_38 : decode c_B_append 38 = .ok (.iadd, 1) := by decide +kernel
theorem d_B_append_39 : decode c_B_append 39 = .ok (.putfield 20, 3) := by decide +kernel
theorem d_B_append_42 : decode c_B_append 42 = .ok (.return_, 1) := by decide +kernel
theorem d_B_makeRoom_0 : decode c_B_makeRoom 0 = .ok (.iload_n 1, 1) := by decide +kernel
theorem d_B_makeRoom_1 : decode c_B_makeRoom 1 = .ok (.aload_n 0, 1) := by decide +kernel
theorem d_B_makeRoom_2 : decode c_B_makeRoom 2 = .ok (.getfield 16, 3) := by decide +kernel
theorem d_B_makeRoom_5 : decode c_B_makeRoom 5 = .ok (.arraylength, 1) := by decide +kernel
theorem d_B_makeRoom_6 : decode c_B_makeRoom 6 = .ok (.if_icmp .le 44, 3) := by decide +kernel
theorem d_B_makeRoom_9 : decode c_B_makeRoom 9 = .ok (.aload_n 0, 1) := by decide +kernel
theorem d_B_makeRoom_10 : decode c_B_makeRoom 10 = .ok (.getfield 16, 3) := by decide +kernel
theorem d_B_makeRoom_13 : decode c_B_makeRoom 13 = .ok (.arraylength, 1) := by decide +kernel
theorem d_B_makeRoom_14 : decode c_B_makeRoom 14 = .ok (.sipush 4096, 3) := by decide +kernel
theorem d_B_makeRoom_17 : decode c_B_makeRoom 17 = .ok (.if_icmp .ge 33, 3) := by decide +kernel
theorem d_B_makeRoom_20 : decode c_B_makeRoom 20 = .ok (.iload_n 1, 1) := by decide +kernel
theorem d_B_makeRoom_21 : decode c_B_makeRoom 21 = .ok (.iconst 2, 1) := by decide +kernel
theorem d_B_makeRoom_22 : decode c_B_makeRoom 22 = .ok (.aload_n 0, 1) := by decide +kernel
theorem d_B_makeRoom_23 : decode c_B_makeRoom 23 = .ok (.getfield 16, 3) := by decide +kernel
theorem d_B_makeRoom_26 : decode c_B_makeRoom 26 = .ok (.arraylength, 1) := by decide +kernel
theorem d_B_makeRoom_27 : decode c_B_makeRoom 27 = .ok (.imul, 1) := by decide +kernel
theorem d_B_makeRoom_28 : decode c_B_makeRoom 28 = .ok (.invokestatic 141, 3) := by decide +kernel
theorem d_B_makeRoom_31 : decode c_B_makeRoom 31 = .ok (.istore_n 2, 1) := by decide +kernel
theorem d_B_makeRoom_32 : decode c_B_makeRoom 32 = .ok (.aload_n 0, 1) := by decide +kernel
theorem d_B_makeRoom_33 : decode c_B_makeRoom 33 = .ok (.aload_n 0, 1) := by decide +kernel
theorem d_B_makeRoom_34 : decode c_B_makeRoom 34 = .ok (.getfield 16, 3) := by decide +kernel
theorem d_B_makeRoom_37 : decode c_B_makeRoom 37 = .ok (.iload_n 2, 1) := by decide +kernel
theorem d_B_makeRoom_38 : decode c_B_makeRoom 38 = .ok (.sipush 4096, 3) := by decide +kernel
theorem d_B_makeRoom_41 : decode c_B_makeRoom 41 = .ok (.invokestatic 94, 3) := by decide +kernel
theorem d_B_makeRoom_44 : decode c_B_makeRoom 44 = .ok (.invokestatic 164, 3) := by decide +kernel
theorem d_B_makeRoom_47 : decode c_B_makeRoom 47 = .ok (.putfield 16, 3) := by decide +kernel
theorem d_B_makeRoom_50 : decode c_B_makeRoom 50 = .ok (.return_, 1) := by decide +kernel
theorem d_B_count_0 : decode c_B_count 0 = .ok (.iload_n 1, 1) := by decide +kernel
theorem d_B_count_1 : decode c_B_count 1 = .ok (.lookupswitch 40 #[(0, 27), (1, 35)], 27) := by decide +kernel
theorem d_B_count_28 : decode c_B_count 28 = .ok (.aload_n 0, 1) := by decide +kernel
theorem d_B_count_29 : decode c_B_count 29 = .ok (.getfield 10, 3) := by decide +kernel
theorem d_B_count_32 : decode c_B_count 32 = .ok (.invokevirtual 61, 3) := by decide +kernel
theorem d_B_count_35 : decode c_B_count 35 = .ok (.ireturn, 1) := by decide +kernel
theorem d_B_count_36 : decode c_B_count 36 = .ok (.aload_n 0, 1) := by decide +kernel
theorem d_B_count_37 : decode c_B_count 37 = .ok (.getfield 20, 3) := by decide +kernel
theorem d_B_count_40 : decode c_B_count 40 = .ok (.ireturn, 1) := by decide +kernel
theorem d_B_count_41 : decode c_B_count 41 = .ok (.iconst (-1), 1) := by decide +kernel
theorem d_B_count_42 : decode c_B_count 42 = .ok (.ireturn, 1) := by decide +kernel
theorem d_B_put_0 : decode c_B_put 0 = .ok (.iload_n 1, 1) := by decide +kernel
theorem d_B_put_1 : decode c_B_put 1 = .ok (.invokestatic 28, 3) := by decide +kernel
theorem d_B_put_4 : decode c_B_put 4 = .ok (.iload_n 2, 1) := by decide +kernel
theorem d_B_put_5 : decode c_B_put 5 = .ok (.iload_n 3, 1) := by decide +kernel
theorem d_B_put_6 : decode c_B_put 6 = .ok (.iload 4, 2) := by decide +kernel
theorem d_B_put_8 : decode c_B_put 8 = .ok (.iload 5, 2) := by decide +kernel
theorem d_B_put_10 : decode c_B_put 10 = .ok (.invokestatic 32, 3) := by decide +kernel
theorem d_B_put_13 : decode c_B_put 13 = .ok (.new 36, 3) := by decide +kernel
theorem d_B_put_16 : decode c_B_put 16 = .ok (.dup, 1) := by decide +kernel
theorem d_B_put_17 : decode c_B_put 17 = .ok (.iload_n 1, 1) := by decide +kernel
theorem d_B_put_18 : decode c_B_put 18 = .ok (.iload_n 2, 1) := by decide +kernel
theorem d_B_put_19 : decode c_B_put 19 = .ok (.iload_n 3, 1) := by decide +kernel
theorem d_B_put_20 : decode c_B_put 20 = .ok (.iload 4, 2) := by decide +kernel
theorem d_B_put_22 : decode c_B_put 22 = .ok (.iload 5, 2) := by decide +kernel
theorem d_B_put_24 : decode c_B_put 24 = .ok (.invokespecial 38, 3) := by decide +kernel
theorem d_B_put_27 : decode c_B_put 27 = .ok (.astore 6, 2) := by decide +kernel
theorem d_B_put_29 : decode c_B_put 29 = .ok (.aload_n 0, 1) := by decide +kernel
theorem d_B_put_30 : decode c_B_put 30 = .ok (.iload_n 1, 1) := by decide +kernel
theorem d_B_put_31 : decode c_B_put 31 = .ok (.invokevirtual 41, 3) := by decide +kernel
theorem d_B_put_34 : decode c_B_put 34 = .ok (.istore 7, 2) := by decide +kernel
theorem d_B_put_36 : decode c_B_put 36 = .ok (.aload_n 0, 1) := by decide +kernel
theorem d_B_put_37 : decode c_B_put 37 = .ok (.iload 7, 2) := by decide +kernel
theorem d_B_put_39 : decode c_B_put 39 = .ok (.iload_n 1, 1) := by decide +kernel
theorem d_B_put_40 : decode c_B_put 40 = .ok (.invokevirtual 45, 3) := by decide +kernel
theorem d_B_put_43 : decode c_B_put 43 = .ok (.ifCond .eq 17, 3) := by decide +kernel
theorem d_B_put_46 : decode c_B_put 46 = .ok (.aload_n 0, 1) := by decide +kernel
theorem d_B_put_47 : decode c_B_put 47 = .ok (.getfield 10, 3) := by decide +kernel
theorem d_B_put_50 : decode c_B_put 50 = .ok (.iload 7, 2) := by decide +kernel
theorem d_B_put_52 : decode c_B_put 52 = .ok (.aload 6, 2) := by decide +kernel
theorem d_B_put_54 : decode c_B_put 54 = .ok (.invokevirtual 49, 3) := by decide +kernel
theorem d_B_put_57 : decode c_B_put 57 = .ok (.pop, 1) := by decide +kernel
theorem d_B_put_58 : decode c_B_put 58 = .ok (.iconst 1, 1) := by decide +kernel
theorem d_B_put_59 : decode c_B_put 59 = .ok (.ireturn, 1) := by decide +kernel
theorem d_B_put_60 : decode c_B_put 60 = .ok (.aload_n 0, 1) := by decide +kernel
theorem d_B_put_61 : decode c_B_put 61 = .ok (.getfield 10, 3) := by decide +kernel
theorem d_B_put_64 : decode c_B_put 64 = .ok (.iload 7, 2) := by decide +kernel
theorem d_B_put_66 : decode c_B_put 66 = .ok (.aload 6, 2) := by decide +kernel
theorem d_B_put_68 : decode c_B_put 68 = .ok (.invokevirtual 53, 3) := by decide +kernel
theorem d_B_put_71 : decode c_B_put 71 = .ok (.iconst 0, 1) := by decide +kernel
theorem d_B_put_72 : decode c_B_put 72 = .ok (.ireturn, 1) := by decide +kernel
theorem d_B_requireNumber_0 : decode c_B_requireNumber 0 = .ok (.iload_n 0, 1) := by decide +kernel
theorem d_B_requireNumber_1 : decode c_B_requireNumber 1 = .ok (.ifCond .lt 10, 3) := by decide +kernel
theorem d_B_requireNumber_4 : decode c_B_requireNumber 4 = .ok (.iload_n 0, 1) := by decide +kernel
theorem d_B_requireNumber_5 : decode c_B_requireNumber 5 = .ok (.sipush 4096, 3) := by decide +kernel
theorem d_B_requireNumber_8 : decode c_B_requireNumber 8 = .ok (.if_icmp .lt 13, 3) := by decide +kernel
theorem d_B_requireNumber_11 : decode c_B_requireNumber 11 = .ok (.new 144, 3) := by decide +kernel
theorem d_B_requireNumber_14 : decode c_B_requireNumber 14 = .ok (.dup, 1) := by decide +kernel
theorem d_B_requireNumber_15 : decode c_B_requireNumber 15 = .ok (.ldc 149, 2) := by decide +kernel
theorem d_B_requireNumber_17 : decode c_B_requireNumber 17 = .ok (.invokespecial 148, 3) := by decide +kernel
theorem d_B_requireNumber_20 : decode c_B_requireNumber 20 = .ok (.athrow, 1) := by decide +kernel
theorem d_B_requireNumber_21 : decode c_B_requireNumber 21 = .ok (.return_, 1) := by decide +kernel
end
section
/-! decode rows, by program -/
theorem d_B_requireBounds_0 : decode c_B_requireBounds 0 = .ok (.iload_n 0, 1) := by decide +kernel
theorem d_B_requireBounds_1 : decode c_B_requireBounds 1 = .ok (.iload_n 1, 1) := by decide +kernel
theorem d_B_requireBounds_2 : decode c_B_requireBounds 2 = .ok (.invokestatic 90, 3) := by decide +kernel
theorem d_B_requireBounds_5 : decode c_B_requireBounds 5 = .ok (.iload_n 2, 1) := by decide +kernel
theorem d_B_requireBounds_6 : decode c_B_requireBounds 6 = .ok (.iload_n 3, 1) := by decide +kernel
theorem d_B_requireBounds_7 : decode c_B_requireBounds 7 = .ok (.invokestatic 90, 3) := by decide +kernel
theorem d_B_requireBounds_10 : decode c_B_requireBounds 10 = .ok (.iload_n 2, 1) := by decide +kernel
theorem d_B_requireBounds_11 : decode c_B_requireBounds 11 = .ok (.iload_n 0, 1) := by decide +kernel
theorem d_B_requireBounds_12 : decode c_B_requireBounds 12 = .ok (.if_icmp .lt 8, 3) := by decide +kernel
theorem d_B_requireBounds_15 : decode c_B_requireBounds 15 = .ok (.iload_n 3, 1) := by decide +kernel
theorem d_B_requireBounds_16 : decode c_B_requireBounds 16 = .ok (.iload_n 1, 1) := by decide +kernel
theorem d_B_requireBounds_17 : decode c_B_requireBounds 17 = .ok (.if_icmp .ge 13, 3) := by decide +kernel
theorem d_B_requireBounds_20 : decode c_B_requireBounds 20 = .ok (.new 68, 3) := by decide +kernel
theorem d_B_requireBounds_23 : decode c_B_requireBounds 23 = .ok (.dup, 1) := by decide +kernel
theorem d_B_requireBounds_24 : decode c_B_requireBounds 24 = .ok (.ldc 151, 2) := by decide +kernel
theorem d_B_requireBounds_26 : decode c_B_requireBounds 26 = .ok (.invokespecial 72, 3) := by decide +kernel
theorem d_B_requireBounds_29 : decode c_B_requireBounds 29 = .ok (.athrow, 1) := by decide +kernel
theorem d_B_requireBounds_30 : decode c_B_requireBounds 30 = .ok (.return_, 1) := by decide +kernel
theorem d_B_requirePlace_0 : decode c_B_requirePlace 0 = .ok (.iload_n 0, 1) := by decide +kernel
theorem d_B_requirePlace_1 : decode c_B_requirePlace 1 = .ok (.ldc 153, 2) := by decide +kernel
theorem d_B_requirePlace_3 : decode c_B_requirePlace 3 = .ok (.if_icmp .lt 21, 3) := by decide +kernel
theorem d_B_requirePlace_6 : decode c_B_requirePlace 6 = .ok (.iload_n 0, 1) := by decide +kernel
theorem d_B_requirePlace_7 : decode c_B_requirePlace 7 = .ok (.ldc 154, 2) := by decide +kernel
theorem d_B_requirePlace_9 : decode c_B_requirePlace 9 = .ok (.if_icmp .gt 15, 3) := by decide +kernel
theorem d_B_requirePlace_12 : decode c_B_requirePlace 12 = .ok (.iload_n 1, 1) := by decide +kernel
theorem d_B_requirePlace_13 : decode c_B_requirePlace 13 = .ok (.ldc 153, 2) := by decide +kernel
theorem d_B_requirePlace_15 : decode c_B_requirePlace 15 = .ok (.if_icmp .lt 9, 3) := by decide +kernel
theorem d_B_requirePlace_18 : decode c_B_requirePlace 18 = .ok (.iload_n 1, 1) := by decide +kernel
theorem d_B_requirePlace_19 : decode c_B_requirePlace 19 = .ok (.ldc 154, 2) := by decide +kernel
theorem d_B_requirePlace_21 : decode c_B_requirePlace 21 = .ok (.if_icmp .le 13, 3) := by decide +kernel
theorem d_B_requirePlace_24 : decode c_B_requirePlace 24 = .ok (.new 68, 3) := by decide +kernel
theorem d_B_requirePlace_27 : decode c_B_requirePlace 27 = .ok (.dup, 1) := by decide +kernel
theorem d_B_requirePlace_28 : decode c_B_requirePlace 28 = .ok (.ldc 155, 2) := by decide +kernel
theorem d_B_requirePlace_30 : decode c_B_requirePlace 30 = .ok (.invokespecial 72, 3) := by decide +kernel
theorem d_B_requirePlace_33 : decode c_B_requirePlace 33 = .ok (.athrow, 1) := by decide +kernel
theorem d_B_requirePlace_34 : decode c_B_requirePlace 34 = .ok (.return_, 1) := by decide +kernel
theorem d_B_indexFor_0 : decode c_B_indexFor 0 = .ok (.iconst 0, 1) := by decide +kernel
theorem d_B_indexFor_1 : decode c_B_indexFor 1 = .ok (.istore_n 2, 1) := by decide +kernel
theorem d_B_indexFor_2 : decode c_B_indexFor 2 = .ok (.aload_n 0, 1) := by decide +kernel
theorem d_B_indexFor_3 : decode c_B_indexFor 3 = .ok (.getfield 10, 3) := by decide +kernel
theorem d_B_indexFor_6 : decode c_B_indexFor 6 = .ok (.invokevirtual 61, 3) := by decide +kernel
theorem d_B_indexFor_9 : decode c_B_indexFor 9 = .ok (.istore_n 3, 1) := by decide +kernel
theorem d_B_indexFor_10 : decode c_B_indexFor 10 = .ok (.iload_n 2, 1) := by decide +kernel
theorem d_B_indexFor_11 : decode c_B_indexFor 11 = .ok (.iload_n 3, 1) := by decide +kernel
theorem d_B_indexFor_12 : decode c_B_indexFor 12 = .ok (.if_icmp .ge 43, 3) := by decide +kernel
theorem d_B_indexFor_15 : decode c_B_indexFor 15 = .ok (.iload_n 2, 1) := by decide +kernel
theorem d_B_indexFor_16 : decode c_B_indexFor 16 = .ok (.iload_n 3, 1) := by decide +kernel
theorem d_B_indexFor_17 : decode c_B_indexFor 17 = .ok (.iadd, 1) := by decide +kernel
theorem d_B_indexFor_18 : decode c_B_indexFor 18 = .ok (.iconst 1, 1) := by decide +kernel
theorem d_B_indexFor_19 : decode c_B_indexFor 19 = .ok (.iushr, 1) := by decide +kernel
theorem d_B_indexFor_20 : decode c_B_indexFor 20 = .ok (.istore 4, 2) := by decide +kernel
theorem d_B_indexFor_22 : decode c_B_indexFor 22 = .ok (.aload_n 0, 1) := by decide +kernel
theorem d_B_indexFor_23 : decode c_B_indexFor 23 = .ok (.getfield 10, 3) := by decide +kernel
theorem d_B_indexFor_26 : decode c_B_indexFor 26 = .ok (.iload 4, 2) := by decide +kernel
theorem d_B_indexFor_28 : decode c_B_indexFor 28 = .ok (.invokevirtual 75, 3) := by decide +kernel
theorem d_B_indexFor_31 : decode c_B_indexFor 31 = .ok (.checkcast 36, 3) := by decide +kernel
theorem d_B_indexFor_34 : decode c_B_indexFor 34 = .ok (.getfield 82, 3) := by decide +kernel
theorem d_B_indexFor_37 : decode c_B_indexFor 37 = .ok (.iload_n 1, 1) := by decide +kernel
theorem d_B_indexFor_38 : decode c_B_indexFor 38 = .ok (.if_icmp .ge 11, 3) := by decide +kernel
theorem d_B_indexFor_41 : decode c_B_indexFor 41 = .ok (.iload 4, 2) := by decide +kernel
theorem d_B_indexFor_43 : decode c_B_indexFor 43 = .ok (.iconst 1, 1) := by decide +kernel
theorem d_B_indexFor_44 : decode c_B_indexFor 44 = .ok (.iadd, 1) := by decide +kernel
theorem d_B_indexFor_45 : decode c_B_indexFor 45 = .ok (.istore_n 2, 1) := by decide +kernel
theorem d_B_indexFor_46 : decode c_B_indexFor 46 = .ok (.goto 6, 3) := by decide +kernel
theorem d_B_indexFor_49 : decode c_B_indexFor 49 = .ok (.iload 4, 2) := by decide +kernel
theorem d_B_indexFor_51 : decode c_B_indexFor 51 = .ok (.istore_n 3, 1) := by decide +kernel
theorem d_B_indexFor_52 : decode c_B_indexFor 52 = .ok (.goto (-42), 3) := by decide +kernel
theorem d_B_indexFor_55 : decode c_B_indexFor 55 = .ok (.iload_n 2, 1) := by decide +kernel
theorem d_B_indexFor_56 : decode c_B_indexFor 56 = .ok (.ireturn, 1) := by decide +kernel
theorem d_B_isAt_0 : decode c_B_isAt 0 = .ok (.iload_n 1, 1) := by decide +kernel
theorem d_B_isAt_1 : decode c_B_isAt 1 = .ok (.ifCond .lt 36, 3) := by decide +kernel
theorem d_B_isAt_4 : decode c_B_isAt 4 = .ok (.iload_n 1, 1) := by decide +kernel
theorem d_B_isAt_5 : decode c_B_isAt 5 = .ok (.aload_n 0, 1) := by decide +kernel
theorem d_B_isAt_6 : decode c_B_isAt 6 = .ok (.getfield 10, 3) := by decide +kernel
theorem d_B_isAt_9 : decode c_B_isAt 9 = .ok (.invokevirtual 61, 3) := by decide +kernel
theorem d_B_isAt_12 : decode c_B_isAt 12 = .ok (.if_icmp .ge 25, 3) := by decide +kernel
theorem d_B_isAt_15 : decode c_B_isAt 15 = .ok (.aload_n 0, 1) := by decide +kernel
theorem d_B_isAt_16 : decode c_B_isAt 16 = .ok (.getfield 10, 3) := by decide +kernel
theorem d_B_isAt_19 : decode c_B_isAt 19 = .ok (.iload_n 1, 1) := by decide +kernel
theorem d_B_isAt_20 : decode c_B_isAt 20 = .ok (.invokevirtual 75, 3) := by decide +kernel
theorem d_B_isAt_23 : decode c_B_isAt 23 = .ok (.checkcast 36, 3) := by decide +kernel
theorem d_B_isAt_26 : decode c_B_isAt 26 = .ok (.getfield 82, 3) := by decide +kernel
theorem d_B_isAt_29 : decode c_B_isAt 29 = .ok (.iload_n 2, 1) := by decide +kernel
theorem d_B_isAt_30 : decode c_B_isAt 30 = .ok (.if_icmp .ne 7, 3) := by decide +kernel
theorem d_B_isAt_33 : decode c_B_isAt 33 = .ok (.iconst 1, 1) := by decide +kernel
theorem d_B_isAt_34 : decode c_B_isAt 34 = .ok (.goto 4, 3) := by decide +kernel
theorem d_B_isAt_37 : decode c_B_isAt 37 = .ok (.iconst 0, 1) := by decide +kernel
theorem d_B_isAt_38 : decode c_B_isAt 38 = .ok (.ireturn, 1) := by decide +kernel
theorem d_B_take_0 : decode c_B_take 0 = .ok (.iload_n 1, 1) := by decide +kernel
theorem d_B_take_1 : decode c_B_take 1 = .ok (.invokestatic 28, 3) := by decide +kernel
theorem d_B_take_4 : decode c_B_take 4 = .ok (.aload_n 0, 1) := by decide +kernel
theorem d_B_take_5 : decode c_B_take 5 = .ok (.iload_n 1, 1) := by decide +kernel
theorem d_B_take_6 : decode c_B_take 6 = .ok (.invokevirtual 41, 3) := by decide +kernel
theorem d_B_take_9 : decode c_B_take 9 = .ok (.istore_n 2, 1) := by decide +kernel
theorem d_B_take_10 : decode c_B_take 10 = .ok (.aload_n 0, 1) := by decide +kernel
theorem d_B_take_11 : decode c_B_take 11 = .ok (.iload_n 2, 1) := by decide +kernel
theorem d_B_take_12 : decode c_B_take 12 = .ok (.iload_n 1, 1) := by decide +kernel
theorem d_B_take_13 : decode c_B_take 13 = .ok (.invokevirtual 45, 3) := by decide +kernel
theorem d_B_take_16 : decode c_B_take 16 = .ok (.ifCond .ne 5, 3) := by decide +kernel
theorem d_B_take_19 : decode c_B_take 19 = .ok (.iconst 0, 1) := by decide +kernel
theorem d_B_take_20 : decode c_B_take 20 = .ok (.ireturn, 1) := by decide +kernel
theorem d_B_take_21 : decode c_B_take 21 = .ok (.aload_n 0, 1) := by decide +kernel
theorem d_B_take_22 : decode c_B_take 22 = .ok (.getfield 10, 3) := by decide +kernel
theorem d_B_take_25 : decode c_B_take 25 = .ok (.iload_n 2, 1) := by decide +kernel
theorem d_B_take_26 : decode c_B_take 26 = .ok (.invokevirtual 57, 3) := by decide +kernel
theorem d_B_take_29 : decode c_B_take 29 = .ok (.pop, 1) := by decide +kernel
theorem d_B_take_30 : decode c_B_take 30 = .ok (.iconst 1, 1) := by decide +kernel
theorem d_B_take_31 : decode c_B_take 31 = .ok (.ireturn, 1) := by decide +kernel
theorem d_B_find_0 : decode c_B_find 0 = .ok (.iload_n 2, 1) := by decide +kernel
theorem d_B_find_1 : decode c_B_find 1 = .ok (.iload_n 3, 1) := by decide +kernel
theorem d_B_find_2 : decode c_B_find 2 = .ok (.iload 4, 2) := by decide +kernel
theorem d_B_find_4 : decode c_B_find 4 = .ok (.iload 5, 2) := by decide +kernel
theorem d_B_find_6 : decode c_B_find 6 = .ok (.invokestatic 32, 3) := by decide +kernel
theorem d_B_find_9 : decode c_B_find 9 = .ok (.iload_n 1, 1) := by decide +kernel
theorem d_B_find_10 : decode c_B_find 10 = .ok (.ifCond .lt 8, 3) := by decide +kernel
theorem d_B_find_13 : decode c_B_find 13 = .ok (.iload_n 1, 1) := by decide +kernel
theorem d_B_find_14 : decode c_B_find 14 = .ok (.iconst 2, 1) := by decide +kernel
theorem d_B_find_15 : decode c_B_find 15 = .ok (.if_icmp .le 13, 3) := by decide +kernel
theorem d_B_find_18 : decode c_B_find 18 = .ok (.new 68, 3) := by decide +kernel
theorem d_B_find_21 : decode c_B_find 21 = .ok (.dup, 1) := by decide +kernel
theorem d_B_find_22 : decode c_B_find 22 = .ok (.ldc 70, 2) := by decide +kernel
theorem d_B_find_24 : decode c_B_find 24 = .ok (.invokespecial 72, 3) := by decide +kernel
theorem d_B_find_27 : decode c_B_find 27 = .ok (.athrow, 1) := by decide +kernel
theorem d_B_find_28 : decode c_B_find 28 = .ok (.new 36, 3) := by decide +kernel
theorem d_B_find_31 : decode c_B_find 31 = .ok (.dup, 1) := by decide +kernel
theorem d_B_find_32 : decode c_B_find 32 = .ok (.iconst (-1), 1) := by decide +kernel
theorem d_B_find_33 : decode c_B_find 33 = .ok (.iload_n 2, 1) := by decide +kernel
theorem d_B_find_34 : decode c_B_find 34 = .ok (.iload_n 3, 1) := by decide +kernel
theorem d_B_find_35 : decode c_B_find 35 = .ok (.iload 4, 2) := by decide +kernel
theorem d_B_find_37 : decode c_B_find 37 = .ok (.iload 5, 2) := by decide +kernel
theorem d_B_find_39 : decode c_B_find 39 = .ok (.invokespecial 38, 3) := by decide +kernel
theorem d_B_find_42 : decode c_B_find 42 = .ok (.astore 6, 2) := by decide +kernel
theorem d_B_find_44 : decode c_B_find 44 = .ok (.aload_n 0, 1) := by decide +kernel
theorem d_B_find_45 : decode c_B_find 45 = .ok (.iconst 0, 1) := by decide +kernel
theorem d_B_find_46 : decode c_B_find 46 = .ok (.putfield 20, 3) := by decide +kernel
theorem d_B_find_49 : decode c_B_find 49 = .ok (.iconst 0, 1) := by decide +kernel
theorem d_B_find_50 : decode c_B_find 50 = .ok (.istore 7, 2) := by decide +kernel
theorem d_B_find_52 : decode c_B_find 52 = .ok (.iload 7, 2) := by decide +kernel
theorem d_B_find_54 : decode c_B_find 54 = .ok (.aload_n 0, 1) := by decide +kernel
theorem d_B_find_55 : decode c_B_find 55 = .ok (.getfield 10, 3) := by decide +kernel
theorem d_B_find_58 : decode c_B_find 58 = .ok (.invokevirtual 61, 3) := by decide +kernel
theorem d_B_find_61 : decode c_B_find 61 = .ok (.if_icmp .ge 43, 3) := by decide +kernel
theorem d_B_find_64 : decode c_B_find 64 = .ok (.aload_n 0, 1) := by decide +kernel
theorem d_B_find_65 : decode c_B_find 65 = .ok (.getfield 10, 3) := by decide +kernel
theorem d_B_find_68 : decode c_B_find 68 = .ok (.iload 7, 2) := by decide +kernel
theorem d_B_find_70 : decode c_B_find 70 = .ok (.invokevirtual 75, 3) := by decide +kernel
theorem d_B_find_73 : decode c_B_find 73 = .ok (.checkcast 36, 3) := by decide +kernel
theorem d_B_find_76 : decode c_B_find 76 = .ok (.astore 8, 2) := by decide +kernel
theorem d_B_find_78 : decode c_B_find 78 = .ok (.iload_n 1, 1) := by decide +kernel
theorem d_B_find_79 : decode c_B_find 79 = .ok (.aload 8, 2) := by decide +kernel
theorem d_B_find_81 : decode c_B_find 81 = .ok (.aload 6, 2) := by decide +kernel
theorem d_B_find_83 : decode c_B_find 83 = .ok (.invokestatic 78, 3) := by decide +kernel
theorem d_B_find_86 : decode c_B_find 86 = .ok (.ifCond .eq 12, 3) := by decide +kernel
theorem d_B_find_89 : decode c_B_find 89 = .ok (.aload_n 0, 1) := by decide +kernel
theorem d_B_find_90 : decode c_B_find 90 = .ok (.aload 8, 2) := by decide +kernel
theorem d_B_find_92 : decode c_B_find 92 = .ok (.getfield 82, 3) := by decide +kernel
theorem d_B_find_95 : decode c_B_find 95 = .ok (.invokevirtual 85, 3) := by decide +kernel
theorem d_B_find_98 : decode c_B_find 98 = .ok (.iinc 7 1, 3) := by decide +kernel
theorem d_B_find_101 : decode c_B_find 101 = .ok (.goto (-49), 3) := by decide +kernel
theorem d_B_find_104 : decode c_B_find 104 = .ok (.aload_n 0, 1) := by decide +kernel
theorem d_B_find_105 : decode c_B_find 105 = .ok (.getfield 20, 3) := by decide +kernel
theorem d_B_find_108 : decode c_B_find 108 = .ok (.ireturn, 1) := by decide +kernel
theorem d_B_fits_0 : decode c_B_fits 0 = .ok (.iload_n 0, 1) := by decide +kernel
theorem d_B_fits_1 : decode c_B_fits 1 = .ok (.lookupswitch 39 #[(0, 27), (1, 33)], 27) := by decide +kernel
theorem d_B_fits_28 : decode c_B_fits 28 = .ok (.aload_n 1, 1) := by decide +kernel
theorem d_B_fits_29 : decode c_B_fits 29 = .ok (.aload_n 2, 1) := by decide +kernel
theorem d_B_fits_30 : decode c_B_fits 30 = .ok (.invokevirtual 114, 3) := by decide +kernel
theorem d_B_fits_33 : decode c_B_fits 33 = .ok (.ireturn, 1) := by decide +kernel
theorem d_B_fits_34 : decode c_B_fits 34 = .ok (.aload_n 1, 1) := by decide +kernel
theorem d_B_fits_35 : decode c_B_fits 35 = .ok (.aload_n 2, 1) := by decide +kernel
theorem d_B_fits_36 : decode c_B_fits 36 = .ok (.invokevirtual 161, 3) := by decide +kernel
theorem d_B_fits_39 : decode c_B_fits 39 = .ok (.ireturn, 1) := by decide +kernel
theorem d_B_fits_40 : decode c_B_fits 40 = .ok (.aload_n 2, 1) := by decide +kernel
theorem d_B_fits_41 : decode c_B_fits 41 = .ok (.aload_n 1, 1) := by decide +kernel
theorem d_B_fits_42 : decode c_B_fits 42 = .ok (.invokevirtual 161, 3) := by decide +kernel
theorem d_B_fits_45 : decode c_B_fits 45 = .ok (.ireturn, 1) := by decide +kernel
theorem d_B_nearest_0 : decode c_B_nearest 0 = .ok (.iload_n 3, 1) := by decide +kernel
theorem d_B_nearest_1 : decode c_B_nearest 1 = .ok (.iconst 1, 1) := by decide +kernel
theorem d_B_nearest_2 : decode c_B_nearest 2 = .ok (.if_icmp .lt 10, 3) := by decide +kernel
theorem d_B_nearest_5 : decode c_B_nearest 5 = .ok (.iload_n 3, 1) := by decide +kernel
theorem d_B_nearest_6 : decode c_B_nearest 6 = .ok (.sipush 4096, 3) := by decide +kernel
theorem d_B_nearest_9 : decode c_B_nearest 9 = .ok (.if_icmp .le 13, 3) := by decide +kernel
theorem d_B_nearest_12 : decode c_B_nearest 12 = .ok (.new 68, 3) := by decide +kernel
theorem d_B_nearest_15 : decode c_B_nearest 15 = .ok (.dup, 1) := by decide +kernel
theorem d_B_nearest_16 : decode c_B_nearest 16 = .ok (.ldc 88, 2) := by decide +kernel
theorem d_B_nearest_18 : decode c_B_nearest 18 = .ok (.invokespecial 72, 3) := by decide +kernel
theorem d_B_nearest_21 : decode c_B_nearest 21 = .ok (.athrow, 1) := by decide +kernel
theorem d_B_nearest_22 : decode c_B_nearest 22 = .ok (.iload_n 1, 1) := by decide +kernel
theorem d_B_nearest_23 : decode c_B_nearest 23 = .ok (.iload_n 2, 1) := by decide +kernel
theorem d_B_nearest_24 : decode c_B_nearest 24 = .ok (.invokestatic 90, 3) := by decide +kernel
theorem d_B_nearest_27 : decode c_B_nearest 27 = .ok (.iload_n 3, 1) := by decide +kernel
theorem d_B_nearest_28 : decode c_B_nearest 28 = .ok (.aload_n 0, 1) := by decide +kernel
theorem d_B_nearest_29 : decode c_B_nearest 29 = .ok (.getfield 10, 3) := by decide +kernel
theorem d_B_nearest_32 : decode c_B_nearest 32 = .ok (.invokevirtual 61, 3) := by decide +kernel
theorem d_B_nearest_35 : decode c_B_nearest 35 = .ok (.invokestatic 94, 3) := by decide +kernel
theorem d_B_nearest_38 : decode c_B_nearest 38 = .ok (.istore 4, 2) := by decide +kernel
theorem d_B_nearest_40 : decode c_B_nearest 40 = .ok (.aload_n 0, 1) := by decide +kernel
theorem d_B_nearest_41 : decode c_B_nearest 41 = .ok (.iconst 0, 1) := by decide +kernel
theorem d_B_nearest_42 : decode c_B_nearest 42 = .ok (.putfield 20, 3) := by decide +kernel
theorem d_B_nearest_45 : decode c_B_nearest 45 = .ok (.aload_n 0, 1) := by decide +kernel
theorem d_B_nearest_46 : decode c_B_nearest 46 = .ok (.iload 4, 2) := by decide +kernel
theorem d_B_nearest_48 : decode c_B_nearest 48 = .ok (.invokevirtual 100, 3) := by decide +kernel
theorem d_B_nearest_51 : decode c_B_nearest 51 = .ok (.aload_n 0, 1) := by decide +kernel
theorem d_B_nearest_52 : decode c_B_nearest 52 = .ok (.invokevirtual 103, 3) := by decide +kernel
theorem d_B_nearest_55 : decode c_B_nearest 55 = .ok (.iconst 0, 1) := by decide +kernel
theorem d_B_nearest_56 : decode c_B_nearest 56 = .ok (.istore 5, 2) := by decide +kernel
theorem d_B_nearest_58 : decode c_B_nearest 58 = .ok (.iload 5, 2) := by decide +kernel
theorem d_B_nearest_60 : decode c_B_nearest 60 = .ok (.aload_n 0, 1) := by decide +kernel
theorem d_B_nearest_61 : decode c_B_nearest 61 = .ok (.getfield 10, 3) := by decide +kernel
theorem d_B_nearest_64 : decode c_B_nearest 64 = .ok (.invokevirtual 61, 3) := by decide +kernel
theorem d_B_nearest_67 : decode c_B_nearest 67 = .ok (.if_icmp .ge 41, 3) := by decide +kernel
theorem d_B_nearest_70 : decode c_B_nearest 70 = .ok (.aload_n 0, 1) := by decide +kernel
theorem d_B_nearest_71 : decode c_B_nearest 71 = .ok (.getfield 10, 3) := by decide +kernel
theorem d_B_nearest_74 : decode c_B_nearest 74 = .ok (.iload 5, 2) := by decide +kernel
theorem d_B_nearest_76 : decode c_B_nearest 76 = .ok (.invokevirtual 75, 3) := by decide +kernel
theorem d_B_nearest_79 : decode c_B_nearest 79 = .ok (.checkcast 36, 3) := by decide +kernel
theorem d_B_nearest_82 : decode c_B_nearest 82 = .ok (.astore 6, 2) := by decide +kernel
theorem d_B_nearest_84 : decode c_B_nearest 84 = .ok (.aload_n 0, 1) := by decide +kernel
theorem d_B_nearest_85 : decode c_B_nearest 85 = .ok (.aload 6, 2) := by decide +kernel
theorem d_B_nearest_87 : decode c_B_nearest 87 = .ok (.getfield 82, 3) := by decide +kernel
theorem d_B_nearest_90 : decode c_B_nearest 90 = .ok (.aload 6, 2) := by decide +kernel
theorem d_B_nearest_92 : decode c_B_nearest 92 = .ok (.iload_n 1, 1) := by decide +kernel
theorem d_B_nearest_93 : decode c_B_nearest 93 = .ok (.iload_n 2, 1) := by decide +kernel
theorem d_B_nearest_94 : decode c_B_nearest 94 = .ok (.invokevirtual 106, 3) := by decide +kernel
theorem d_B_nearest_97 : decode c_B_nearest 97 = .ok (.iload 4, 2) := by decide +kernel
theorem d_B_nearest_99 : decode c_B_nearest 99 = .ok (.invokevirtual 110, 3) := by decide +kernel
theorem d_B_nearest_102 : decode c_B_nearest 102 = .ok (.iinc 5 1, 3) := by decide +kernel
theorem d_B_nearest_105 : decode c_B_nearest 105 = .ok (.goto (-47), 3) := by decide +kernel
theorem d_B_nearest_108 : decode c_B_nearest 108 = .ok (.aload_n 0, 1) := by decide +kernel
theorem d_B_nearest_109 : decode c_B_nearest 109 = .ok (.getfield 20, 3) := by decide +kernel
theorem d_B_nearest_112 : decode c_B_nearest 112 = .ok (.ireturn, 1) := by decide +kernel
theorem d_B_makeRoomForDistances_0 : decode c_B_makeRoomForDistances 0 = .ok (.aload_n 0, 1) := by decide +kernel
theorem d_B_makeRoomForDistances_1 : decode c_B_makeRoomForDistances 1 = .ok (.getfield 24, 3) := by decide +kernel
theorem d_B_makeRoomForDistances_4 : decode c_B_makeRoomForDistances 4 = .ok (.arraylength, 1) := by decide +kernel
theorem d_B_makeRoomForDistances_5 : decode c_B_makeRoomForDistances 5 = .ok (.aload_n 0, 1) := by decide +kernel
theorem d_B_makeRoomForDistances_6 : decode c_B_makeRoomForDistances 6 = .ok (.getfield 16, 3) := by decide +kernel
theorem d_B_makeRoomForDistances_9 : decode c_B_makeRoomForDistances 9 = .ok (.arraylength, 1) := by decide +kernel
theorem d_B_makeRoomForDistances_10 : decode c_B_makeRoomForDistances 10 = .ok (.if_icmp .ge 14, 3) := by decide +kernel
theorem d_B_makeRoomForDistances_13 : decode c_B_makeRoomForDistances 13 = .ok (.aload_n 0, 1) := by decide +kernel
theorem d_B_makeRoomForDistances_14 : decode c_B_makeRoomForDistances 14 = .ok (.aload_n 0, 1) := by decide +kernel
theorem d_B_makeRoomForDistances_15 : decode c_B_makeRoomForDistances 15 = .ok (.getfield 16, 3) := by decide +kernel
theorem d_B_makeRoomForDistances_18 : decode c_B_makeRoomForDistances 18 = .ok (.arraylength, 1) := by decide +kernel
theorem d_B_makeRoomForDistances_19 : decode c_B_makeRoomForDistances 19 = .ok (.newarray .long, 2) := by decide +kernel
theorem d_B_makeRoomForDistances_21 : decode c_B_makeRoomForDistances 21 = .ok (.putfield 24, 3) := by decide +kernel
theorem d_B_makeRoomForDistances_24 : decode c_B_makeRoomForDistances 24 = .ok (.return_, 1) := by decide +kernel
theorem d_B_insertByDistance_0 : decode c_B_insertByDistance 0 = .ok (.aload_n 0, 1) := by decide +kernel
theorem d_B_insertByDistance_1 : decode c_B_insertByDistance 1 = .ok (.lload_n 2, 1) := by decide +kernel
theorem d_B_insertByDistance_2 : decode c_B_insertByDistance 2 = .ok (.invokevirtual 170, 3) := by decide +kernel
theorem d_B_insertByDistance_5 : decode c_B_insertByDistance 5 = .ok (.istore 5, 2) := by decide +kernel
theorem d_B_insertByDistance_7 : decode c_B_insertByDistance 7 = .ok (.iload 5, 2) := by decide +kernel
theorem d_B_insertByDistance_9 : decode c_B_insertByDistance 9 = .ok (.iload 4, 2) := by decide +kernel
theorem d_B_insertByDistance_11 : decode c_B_insertByDistance 11 = .ok (.if_icmp .ge 23, 3) := by decide +kernel
theorem d_B_insertByDistance_14 : decode c_B_insertByDistance 14 = .ok (.iload 4, 2) := by decide +kernel
theorem d_B_insertByDistance_16 : decode c_B_insertByDistance 16 = .ok (.aload_n 0, 1) := by decide +kernel
theorem d_B_insertByDistance_17 : decode c_B_insertByDistance 17 = .ok (.getfield 16, 3) := by decide +kernel
theorem d_B_insertByDistance_20 : decode c_B_insertByDistance 20 = .ok (.arraylength, 1) := by decide +kernel
theorem d_B_insertByDistance_21 : decode c_B_insertByDistance 21 = .ok (.if_icmp .gt 13, 3) := by decide +kernel
theorem d_B_insertByDistance_24 : decode c_B_insertByDistance 24 = .ok (.iload 4, 2) := by decide +kernel
theorem d_B_insertByDistance_26 : decode c_B_insertByDistance 26 = .ok (.aload_n 0, 1) := by decide +kernel
theorem d_B_insertByDistance_27 : decode c_B_insertByDistance 27 = .ok (.getfield 24, 3) := by decide +kernel
theorem d_B_insertByDistance_30 : decode c_B_insertByDistance 30 = .ok (.arraylength, 1) := by decide +kernel
theorem d_B_insertByDistance_31 : decode c_B_insertByDistance 31 = .ok (.if_icmp .le 4, 3) := by decide +kernel
theorem d_B_insertByDistance_34 : decode c_B_insertByDistance 34 = .ok (.return_, 1) := by decide +kernel
theorem d_B_insertByDistance_35 : decode c_B_insertByDistance 35 = .ok (.aload_n 0, 1) := by decide +kernel
theorem d_B_insertByDistance_36 : decode c_B_insertByDistance 36 = .ok (.getfield 20, 3) := by decide +kernel
theorem d_B_insertByDistance_39 : decode c_B_insertByDistance 39 = .ok (.iload 4, 2) := by decide +kernel
theorem d_B_insertByDistance_41 : decode c_B_insertByDistance 41 = .ok (.iconst 1, 1) := by decide +kernel
theorem d_B_insertByDistance_42 : decode c_B_insertByDistance 42 = .ok (.isub, 1) := by decide +kernel
theorem d_B_insertByDistance_43 : decode c_B_insertByDistance 43 = .ok (.invokestatic 94, 3) := by decide +kernel
theorem d_B_insertByDistance_46 : decode c_B_insertByDistance 46 = .ok (.istore 6, 2) := by decide +kernel
theorem d_B_insertByDistance_48 : decode c_B_insertByDistance 48 = .ok (.aload_n 0, 1) := by decide +kernel
theorem d_B_insertByDistance_49 : decode c_B_insertByDistance 49 = .ok (.getfield 16, 3) := by decide +kernel
theorem d_B_insertByDistance_52 : decode c_B_insertByDistance 52 = .ok (.iload 5, 2) := by decide +kernel
theorem d_B_insertByDistance_54 : decode c_B_insertByDistance 54 = .ok (.aload_n 0, 1) := by decide +kernel
theorem d_B_insertByDistance_55 : decode c_B_insertByDistance 55 = .ok (.getfield 16, 3) := by decide +kernel
theorem d_B_insertByDistance_58 : decode c_B_insertByDistance 58 = .ok (.iload 5, 2) := by decide +kernel
theorem d_B_insertByDistance_60 : decode c_B_insertByDistance 60 = .ok (.iconst 1, 1) := by decide +kernel
theorem d_B_insertByDistance_61 : decode c_B_insertByDistance 61 = .ok (.iadd, 1) := by decide +kernel
theorem d_B_insertByDistance_62 : decode c_B_insertByDistance 62 = .ok (.iload 6, 2) := by decide +kernel
theorem d_B_insertByDistance_64 : decode c_B_insertByDistance 64 = .ok (.iload 5, 2) := by decide +kernel
theorem d_B_insertByDistance_66 : decode c_B_insertByDistance 66 = .ok (.isub, 1) := by decide +kernel
theorem d_B_insertByDistance_67 : decode c_B_insertByDistance 67 = .ok (.invokestatic 174, 3) := by decide +kernel
theorem d_B_insertByDistance_70 : decode c_B_insertByDistance 70 = .ok (.aload_n 0, 1) := by decide +kernel
theorem d_B_insertByDistance_71 : decode c_B_insertByDistance 71 = .ok (.getfield 24, 3) := by decide +kernel
theorem d_B_insertByDistance_74 : decode c_B_insertByDistance 74 = .ok (.iload 5, 2) := by decide +kernel
theorem d_B_insertByDistance_76 : decode c_B_insertByDistance 76 = .ok (.aload_n 0, 1) := by decide +kernel
theorem d_B_insertByDistance_77 : decode c_B_insertByDistance 77 = .ok (.getfield 24, 3) := by decide +kernel
theorem d_B_insertByDistance_80 : decode c_B_insertByDistance 80 = .ok (.iload 5, 2) := by decide +kernel
theorem d_B_insertByDistance_82 : decode c_B_insertByDistance 82 = .ok (.iconst 1, 1) := by decide +kernel
theorem d_B_insertByDistance_83 : decode c_B_insertByDistance 83 = .ok (.iadd, 1) := by decide +kernel
theorem d_B_insertByDistance_84 : decode c_B_insertByDistance 84 = .ok (.iload 6, 2) := by decide +kernel
theorem d_B_insertByDistance_86 : decode c_B_insertByDistance 86 = .ok (.iload 5, 2) := by decide +kernel
theorem d_B_insertByDistance_88 : decode c_B_insertByDistance 88 = .ok (.isub, 1) := by decide +kernel
theorem d_B_insertByDistance_89 : decode c_B_insertByDistance 89 = .ok (.invokestatic 174, 3) := by decide +kernel
theorem d_B_insertByDistance_92 : decode c_B_insertByDistance 92 = .ok (.aload_n 0, 1) := by decide +kernel
theorem d_B_insertByDistance_93 : decode c_B_insertByDistance 93 = .ok (.getfield 16, 3) := by decide +kernel
theorem d_B_insertByDistance_96 : decode c_B_insertByDistance 96 = .ok (.iload 5, 2) := by decide +kernel
theorem d_B_insertByDistance_98 : decode c_B_insertByDistance 98 = .ok (.iload_n 1, 1) := by decide +kernel
theorem d_B_insertByDistance_99 : decode c_B_insertByDistance 99 = .ok (.iastore, 1) := by decide +kernel
theorem d_B_insertByDistance_100 : decode c_B_insertByDistance 100 = .ok (.aload_n 0, 1) := by decide +kernel
theorem d_B_insertByDistance_101 : decode c_B_insertByDistance 101 = .ok (.getfield 24, 3) := by decide +kernel
theorem d_B_insertByDistance_104 : decode c_B_insertByDistance 104 = .ok (.iload 5, 2) := by decide +kernel
theorem d_B_insertByDistance_106 : decode c_B_insertByDistance 106 = .ok (.lload_n 2, 1) := by decide +kernel
theorem d_B_insertByDistance_107 : decode c_B_insertByDistance 107 = .ok (.lastore, 1) := by decide +kernel
theorem d_B_insertByDistance_108 : decode c_B_insertByDistance 108 = .ok (.aload_n 0, 1) := by decide +kernel
theorem d_B_insertByDistance_109 : decode c_B_insertByDistance 109 = .ok (.iload 6, 2) := by decide +kernel
theorem d_B_insertByDistance_111 : decode c_B_insertByDistance 111 = .ok (.iconst 1, 1) := by decide +kernel
theorem d_B_insertByDistance_112 : decode c_B_insertByDistance 112 = .ok (.iadd, 1) := by decide +kernel
theorem d_B_insertByDistance_113 : decode c_B_insertByDistance 113 = .ok (.putfield 20, 3) := by decide +kernel
theorem d_B_insertByDistance_116 : decode c_B_insertByDistance 116 = .ok (.return_, 1) := by decide +kernel
end
section
/-! decode rows, by program -/
theorem d_B_indexBehind_0 : decode c_B_indexBehind 0 = .ok (.iconst 0, 1) := by decide +kernel
theorem d_B_indexBehind_1 : decode c_B_indexBehind 1 = .ok (.istore_n 3, 1) := by decide +kernel
theorem d_B_indexBehind_2 : decode c_B_indexBehind 2 = .ok (.aload_n 0, 1) := by decide +kernel
theorem d_B_indexBehind_3 : decode c_B_indexBehind 3 = .ok (.getfield 20, 3) := by decide +kernel
theorem d_B_indexBehind_6 : decode c_B_indexBehind 6 = .ok (.aload_n 0, 1) := by decide +kernel
theorem d_B_indexBehind_7 : decode c_B_indexBehind 7 = .ok (.getfield 24, 3) := by decide +kernel
theorem d_B_indexBehind_10 : decode c_B_indexBehind 10 = .ok (.arraylength, 1) := by decide +kernel
theorem d_B_indexBehind_11 : decode c_B_indexBehind 11 = .ok (.invokestatic 94, 3) := by decide +kernel
theorem d_B_indexBehind_14 : decode c_B_indexBehind 14 = .ok (.istore 4, 2) := by decide +kernel
theorem d_B_indexBehind_16 : decode c_B_indexBehind 16 = .ok (.iload_n 3, 1) := by decide +kernel
theorem d_B_indexBehind_17 : decode c_B_indexBehind 17 = .ok (.iload 4, 2) := by decide +kernel
theorem d_B_indexBehind_19 : decode c_B_indexBehind 19 = .ok (.if_icmp .ge 38, 3) := by decide +kernel
theorem d_B_indexBehind_22 : decode c_B_indexBehind 22 = .ok (.iload_n 3, 1) := by decide +kernel
theorem d_B_indexBehind_23 : decode c_B_indexBehind 23 = .ok (.iload 4, 2) := by decide +kernel
theorem d_B_indexBehind_25 : decode c_B_indexBehind 25 = .ok (.iadd, 1) := by decide +kernel
theorem d_B_indexBehind_26 : decode c_B_indexBehind 26 = .ok (.iconst 1, 1) := by decide +kernel
theorem d_B_indexBehind_27 : decode c_B_indexBehind 27 = .ok (.iushr, 1) := by decide +kernel
theorem d_B_indexBehind_28 : decode c_B_indexBehind 28 = .ok (.istore 5, 2) := by decide +kernel
theorem d_B_indexBehind_30 : decode c_B_indexBehind 30 = .ok (.aload_n 0, 1) := by decide +kernel
theorem d_B_indexBehind_31 : decode c_B_indexBehind 31 = .ok (.getfield 24, 3) := by decide +kernel
theorem d_B_indexBehind_34 : decode c_B_indexBehind 34 = .ok (.iload 5, 2) := by decide +kernel
theorem d_B_indexBehind_36 : decode c_B_indexBehind 36 = .ok (.laload, 1) := by decide +kernel
theorem d_B_indexBehind_37 : decode c_B_indexBehind 37 = .ok (.lload_n 1, 1) := by decide +kernel
theorem d_B_indexBehind_38 : decode c_B_indexBehind 38 = .ok (.lcmp, 1) := by decide +kernel
theorem d_B_indexBehind_39 : decode c_B_indexBehind 39 = .ok (.ifCond .gt 11, 3) := by decide +kernel
theorem d_B_indexBehind_42 : decode c_B_indexBehind 42 = .ok (.iload 5, 2) := by decide +kernel
theorem d_B_indexBehind_44 : decode c_B_indexBehind 44 = .ok (.iconst 1, 1) := by decide +kernel
theorem d_B_indexBehind_45 : decode c_B_indexBehind 45 = .ok (.iadd, 1) := by decide +kernel
theorem d_B_indexBehind_46 : decode c_B_indexBehind 46 = .ok (.istore_n 3, 1) := by decide +kernel
theorem d_B_indexBehind_47 : decode c_B_indexBehind 47 = .ok (.goto 7, 3) := by decide +kernel
theorem d_B_indexBehind_50 : decode c_B_indexBehind 50 = .ok (.iload 5, 2) := by decide +kernel
theorem d_B_indexBehind_52 : decode c_B_indexBehind 52 = .ok (.istore 4, 2) := by decide +kernel
theorem d_B_indexBehind_54 : decode c_B_indexBehind 54 = .ok (.goto (-38), 3) := by decide +kernel
theorem d_B_indexBehind_57 : decode c_B_indexBehind 57 = .ok (.iload_n 3, 1) := by decide +kernel
theorem d_B_indexBehind_58 : decode c_B_indexBehind 58 = .ok (.ireturn, 1) := by decide +kernel
theorem d_B_distance_0 : decode c_B_distance 0 = .ok (.aload_n 0, 1) := by decide +kernel
theorem d_B_distance_1 : decode c_B_distance 1 = .ok (.iload_n 1, 1) := by decide +kernel
theorem d_B_distance_2 : decode c_B_distance 2 = .ok (.invokevirtual 118, 3) := by decide +kernel
theorem d_B_distance_5 : decode c_B_distance 5 = .ok (.astore 4, 2) := by decide +kernel
theorem d_B_distance_7 : decode c_B_distance 7 = .ok (.iload_n 2, 1) := by decide +kernel
theorem d_B_distance_8 : decode c_B_distance 8 = .ok (.iload_n 3, 1) := by decide +kernel
theorem d_B_distance_9 : decode c_B_distance 9 = .ok (.invokestatic 90, 3) := by decide +kernel
theorem d_B_distance_12 : decode c_B_distance 12 = .ok (.aload 4, 2) := by decide +kernel
theorem d_B_distance_14 : decode c_B_distance 14 = .ok (.iload_n 2, 1) := by decide +kernel
theorem d_B_distance_15 : decode c_B_distance 15 = .ok (.iload_n 3, 1) := by decide +kernel
theorem d_B_distance_16 : decode c_B_distance 16 = .ok (.invokevirtual 106, 3) := by decide +kernel
theorem d_B_distance_19 : decode c_B_distance 19 = .ok (.lreturn, 1) := by decide +kernel
theorem d_B_requireBox_0 : decode c_B_requireBox 0 = .ok (.aload_n 0, 1) := by decide +kernel
theorem d_B_requireBox_1 : decode c_B_requireBox 1 = .ok (.iload_n 1, 1) := by decide +kernel
theorem d_B_requireBox_2 : decode c_B_requireBox 2 = .ok (.invokevirtual 41, 3) := by decide +kernel
theorem d_B_requireBox_5 : decode c_B_requireBox 5 = .ok (.istore_n 2, 1) := by decide +kernel
theorem d_B_requireBox_6 : decode c_B_requireBox 6 = .ok (.aload_n 0, 1) := by decide +kernel
theorem d_B_requireBox_7 : decode c_B_requireBox 7 = .ok (.iload_n 2, 1) := by decide +kernel
theorem d_B_requireBox_8 : decode c_B_requireBox 8 = .ok (.iload_n 1, 1) := by decide +kernel
theorem d_B_requireBox_9 : decode c_B_requireBox 9 = .ok (.invokevirtual 45, 3) := by decide +kernel
theorem d_B_requireBox_12 : decode c_B_requireBox 12 = .ok (.ifCond .ne 13, 3) := by decide +kernel
theorem d_B_requireBox_15 : decode c_B_requireBox 15 = .ok (.new 144, 3) := by decide +kernel
theorem d_B_requireBox_18 : decode c_B_requireBox 18 = .ok (.dup, 1) := by decide +kernel
theorem d_B_requireBox_19 : decode c_B_requireBox 19 = .ok (.ldc 159, 2) := by decide +kernel
theorem d_B_requireBox_21 : decode c_B_requireBox 21 = .ok (.invokespecial 148, 3) := by decide +kernel
theorem d_B_requireBox_24 : decode c_B_requireBox 24 = .ok (.athrow, 1) := by decide +kernel
theorem d_B_requireBox_25 : decode c_B_requireBox 25 = .ok (.aload_n 0, 1) := by decide +kernel
theorem d_B_requireBox_26 : decode c_B_requireBox 26 = .ok (.getfield 10, 3) := by decide +kernel
theorem d_B_requireBox_29 : decode c_B_requireBox 29 = .ok (.iload_n 2, 1) := by decide +kernel
theorem d_B_requireBox_30 : decode c_B_requireBox 30 = .ok (.invokevirtual 75, 3) := by decide +kernel
theorem d_B_requireBox_33 : decode c_B_requireBox 33 = .ok (.checkcast 36, 3) := by decide +kernel
theorem d_B_requireBox_36 : decode c_B_requireBox 36 = .ok (.areturn, 1) := by decide +kernel
theorem d_B_bounds_0 : decode c_B_bounds 0 = .ok (.iload_n 1, 1) := by decide +kernel
theorem d_B_bounds_1 : decode c_B_bounds 1 = .ok (.invokestatic 122, 3) := by decide +kernel
theorem d_B_bounds_4 : decode c_B_bounds 4 = .ok (.aload_n 0, 1) := by decide +kernel
theorem d_B_bounds_5 : decode c_B_bounds 5 = .ok (.getfield 10, 3) := by decide +kernel
theorem d_B_bounds_8 : decode c_B_bounds 8 = .ok (.invokevirtual 125, 3) := by decide +kernel
theorem d_B_bounds_11 : decode c_B_bounds 11 = .ok (.ifCond .eq 13, 3) := by decide +kernel
theorem d_B_bounds_14 : decode c_B_bounds 14 = .ok (.new 129, 3) := by decide +kernel
theorem d_B_bounds_17 : decode c_B_bounds 17 = .ok (.dup, 1) := by decide +kernel
theorem d_B_bounds_18 : decode c_B_bounds 18 = .ok (.ldc 131, 2) := by decide +kernel
theorem d_B_bounds_20 : decode c_B_bounds 20 = .ok (.invokespecial 133, 3) := by decide +kernel
theorem d_B_bounds_23 : decode c_B_bounds 23 = .ok (.athrow, 1) := by decide +kernel
theorem d_B_bounds_24 : decode c_B_bounds 24 = .ok (.aload_n 0, 1) := by decide +kernel
theorem d_B_bounds_25 : decode c_B_bounds 25 = .ok (.getfield 10, 3) := by decide +kernel
theorem d_B_bounds_28 : decode c_B_bounds 28 = .ok (.iconst 0, 1) := by decide +kernel
theorem d_B_bounds_29 : decode c_B_bounds 29 = .ok (.invokevirtual 75, 3) := by decide +kernel
theorem d_B_bounds_32 : decode c_B_bounds 32 = .ok (.checkcast 36, 3) := by decide +kernel
theorem d_B_bounds_35 : decode c_B_bounds 35 = .ok (.iload_n 1, 1) := by decide +kernel
theorem d_B_bounds_36 : decode c_B_bounds 36 = .ok (.invokevirtual 134, 3) := by decide +kernel
theorem d_B_bounds_39 : decode c_B_bounds 39 = .ok (.istore_n 2, 1) := by decide +kernel
theorem d_B_bounds_40 : decode c_B_bounds 40 = .ok (.iconst 1, 1) := by decide +kernel
theorem d_B_bounds_41 : decode c_B_bounds 41 = .ok (.istore_n 3, 1) := by decide +kernel
theorem d_B_bounds_42 : decode c_B_bounds 42 = .ok (.iload_n 3, 1) := by decide +kernel
theorem d_B_bounds_43 : decode c_B_bounds 43 = .ok (.aload_n 0, 1) := by decide +kernel
theorem d_B_bounds_44 : decode c_B_bounds 44 = .ok (.getfield 10, 3) := by decide +kernel
theorem d_B_bounds_47 : decode c_B_bounds 47 = .ok (.invokevirtual 61, 3) := by decide +kernel
theorem d_B_bounds_50 : decode c_B_bounds 50 = .ok (.if_icmp .ge 49, 3) := by decide +kernel
theorem d_B_bounds_53 : decode c_B_bounds 53 = .ok (.aload_n 0, 1) := by decide +kernel
theorem d_B_bounds_54 : decode c_B_bounds 54 = .ok (.getfield 10, 3) := by decide +kernel
theorem d_B_bounds_57 : decode c_B_bounds 57 = .ok (.iload_n 3, 1) := by decide +kernel
theorem d_B_bounds_58 : decode c_B_bounds 58 = .ok (.invokevirtual 75, 3) := by decide +kernel
theorem d_B_bounds_61 : decode c_B_bounds 61 = .ok (.checkcast 36, 3) := by decide +kernel
theorem d_B_bounds_64 : decode c_B_bounds 64 = .ok (.iload_n 1, 1) := by decide +kernel
theorem d_B_bounds_65 : decode c_B_bounds 65 = .ok (.invokevirtual 134, 3) := by decide +kernel
theorem d_B_bounds_68 : decode c_B_bounds 68 = .ok (.istore 4, 2) := by decide +kernel
theorem d_B_bounds_70 : decode c_B_bounds 70 = .ok (.iload_n 1, 1) := by decide +kernel
theorem d_B_bounds_71 : decode c_B_bounds 71 = .ok (.invokestatic 137, 3) := by decide +kernel
theorem d_B_bounds_74 : decode c_B_bounds 74 = .ok (.ifCond .eq 12, 3) := by decide +kernel
theorem d_B_bounds_77 : decode c_B_bounds 77 = .ok (.iload_n 2, 1) := by decide +kernel
theorem d_B_bounds_78 : decode c_B_bounds 78 = .ok (.iload 4, 2) := by decide +kernel
theorem d_B_bounds_80 : decode c_B_bounds 80 = .ok (.invokestatic 94, 3) := by decide +kernel
theorem d_B_bounds_83 : decode c_B_bounds 83 = .ok (.goto 9, 3) := by decide +kernel
theorem d_B_bounds_86 : decode c_B_bounds 86 = .ok (.iload_n 2, 1) := by decide +kernel
theorem d_B_bounds_87 : decode c_B_bounds 87 = .ok (.iload 4, 2) := by decide +kernel
theorem d_B_bounds_89 : decode c_B_bounds 89 = .ok (.invokestatic 141, 3) := by decide +kernel
theorem d_B_bounds_92 : decode c_B_bounds 92 = .ok (.istore_n 2, 1) := by decide +kernel
theorem d_B_bounds_93 : decode c_B_bounds 93 = .ok (.iinc 3 1, 3) := by decide +kernel
theorem d_B_bounds_96 : decode c_B_bounds 96 = .ok (.goto (-54), 3) := by decide +kernel
theorem d_B_bounds_99 : decode c_B_bounds 99 = .ok (.iload_n 2, 1) := by decide +kernel
theorem d_B_bounds_100 : decode c_B_bounds 100 = .ok (.ireturn, 1) := by decide +kernel
theorem d_B_requireBound_0 : decode c_B_requireBound 0 = .ok (.iload_n 0, 1) := by decide +kernel
theorem d_B_requireBound_1 : decode c_B_requireBound 1 = .ok (.ifCond .lt 8, 3) := by decide +kernel
theorem d_B_requireBound_4 : decode c_B_requireBound 4 = .ok (.iload_n 0, 1) := by decide +kernel
theorem d_B_requireBound_5 : decode c_B_requireBound 5 = .ok (.iconst 3, 1) := by decide +kernel
theorem d_B_requireBound_6 : decode c_B_requireBound 6 = .ok (.if_icmp .le 13, 3) := by decide +kernel
theorem d_B_requireBound_9 : decode c_B_requireBound 9 = .ok (.new 144, 3) := by decide +kernel
theorem d_B_requireBound_12 : decode c_B_requireBound 12 = .ok (.dup, 1) := by decide +kernel
theorem d_B_requireBound_13 : decode c_B_requireBound 13 = .ok (.ldc 157, 2) := by decide +kernel
theorem d_B_requireBound_15 : decode c_B_requireBound 15 = .ok (.invokespecial 148, 3) := by decide +kernel
theorem d_B_requireBound_18 : decode c_B_requireBound 18 = .ok (.athrow, 1) := by decide +kernel
theorem d_B_requireBound_19 : decode c_B_requireBound 19 = .ok (.return_, 1) := by decide +kernel
theorem d_B_isLeast_0 : decode c_B_isLeast 0 = .ok (.iload_n 0, 1) := by decide +kernel
theorem d_B_isLeast_1 : decode c_B_isLeast 1 = .ok (.ifCond .eq 8, 3) := by decide +kernel
theorem d_B_isLeast_4 : decode c_B_isLeast 4 = .ok (.iload_n 0, 1) := by decide +kernel
theorem d_B_isLeast_5 : decode c_B_isLeast 5 = .ok (.iconst 1, 1) := by decide +kernel
theorem d_B_isLeast_6 : decode c_B_isLeast 6 = .ok (.if_icmp .ne 7, 3) := by decide +kernel
theorem d_B_isLeast_9 : decode c_B_isLeast 9 = .ok (.iconst 1, 1) := by decide +kernel
theorem d_B_isLeast_10 : decode c_B_isLeast 10 = .ok (.goto 4, 3) := by decide +kernel
theorem d_B_isLeast_13 : decode c_B_isLeast 13 = .ok (.iconst 0, 1) := by decide +kernel
theorem d_B_isLeast_14 : decode c_B_isLeast 14 = .ok (.ireturn, 1) := by decide +kernel
theorem d_B_result_0 : decode c_B_result 0 = .ok (.iload_n 1, 1) := by decide +kernel
theorem d_B_result_1 : decode c_B_result 1 = .ok (.ifCond .lt 20, 3) := by decide +kernel
theorem d_B_result_4 : decode c_B_result 4 = .ok (.iload_n 1, 1) := by decide +kernel
theorem d_B_result_5 : decode c_B_result 5 = .ok (.aload_n 0, 1) := by decide +kernel
theorem d_B_result_6 : decode c_B_result 6 = .ok (.getfield 20, 3) := by decide +kernel
theorem d_B_result_9 : decode c_B_result 9 = .ok (.if_icmp .ge 12, 3) := by decide +kernel
theorem d_B_result_12 : decode c_B_result 12 = .ok (.iload_n 1, 1) := by decide +kernel
theorem d_B_result_13 : decode c_B_result 13 = .ok (.aload_n 0, 1) := by decide +kernel
theorem d_B_result_14 : decode c_B_result 14 = .ok (.getfield 16, 3) := by decide +kernel
theorem d_B_result_17 : decode c_B_result 17 = .ok (.arraylength, 1) := by decide +kernel
theorem d_B_result_18 : decode c_B_result 18 = .ok (.if_icmp .lt 13, 3) := by decide +kernel
theorem d_B_result_21 : decode c_B_result 21 = .ok (.new 144, 3) := by decide +kernel
theorem d_B_result_24 : decode c_B_result 24 = .ok (.dup, 1) := by decide +kernel
theorem d_B_result_25 : decode c_B_result 25 = .ok (.ldc 146, 2) := by decide +kernel
theorem d_B_result_27 : decode c_B_result 27 = .ok (.invokespecial 148, 3) := by decide +kernel
theorem d_B_result_30 : decode c_B_result 30 = .ok (.athrow, 1) := by decide +kernel
theorem d_B_result_31 : decode c_B_result 31 = .ok (.aload_n 0, 1) := by decide +kernel
theorem d_B_result_32 : decode c_B_result 32 = .ok (.getfield 16, 3) := by decide +kernel
theorem d_B_result_35 : decode c_B_result 35 = .ok (.iload_n 1, 1) := by decide +kernel
theorem d_B_result_36 : decode c_B_result 36 = .ok (.iaload, 1) := by decide +kernel
theorem d_B_result_37 : decode c_B_result 37 = .ok (.ireturn, 1) := by decide +kernel
theorem d_B_box_0 : decode c_B_box 0 = .ok (.aload_n 0, 1) := by decide +kernel
theorem d_B_box_1 : decode c_B_box 1 = .ok (.iload_n 1, 1) := by decide +kernel
theorem d_B_box_2 : decode c_B_box 2 = .ok (.invokevirtual 118, 3) := by decide +kernel
theorem d_B_box_5 : decode c_B_box 5 = .ok (.astore_n 3, 1) := by decide +kernel
theorem d_B_box_6 : decode c_B_box 6 = .ok (.iload_n 2, 1) := by decide +kernel
theorem d_B_box_7 : decode c_B_box 7 = .ok (.invokestatic 122, 3) := by decide +kernel
theorem d_B_box_10 : decode c_B_box 10 = .ok (.aload_n 3, 1) := by decide +kernel
theorem d_B_box_11 : decode c_B_box 11 = .ok (.iload_n 2, 1) := by decide +kernel
theorem d_B_box_12 : decode c_B_box 12 = .ok (.invokevirtual 134, 3) := by decide +kernel
theorem d_B_box_15 : decode c_B_box 15 = .ok (.ireturn, 1) := by decide +kernel
theorem d_M_init_0 : decode c_M_init 0 = .ok (.aload_n 0, 1) := by decide +kernel
theorem d_M_init_1 : decode c_M_init 1 = .ok (.invokespecial 1, 3) := by decide +kernel
theorem d_M_init_4 : decode c_M_init 4 = .ok (.aload_n 0, 1) := by decide +kernel
theorem d_M_init_5 : decode c_M_init 5 = .ok (.sipush 4096, 3) := by decide +kernel
theorem d_M_init_8 : decode c_M_init 8 = .ok (.newarray .boolean, 2) := by decide +kernel
theorem d_M_init_10 : decode c_M_init 10 = .ok (.putfield 7, 3) := by decide +kernel
theorem d_M_init_13 : decode c_M_init 13 = .ok (.aload_n 0, 1) := by decide +kernel
theorem d_M_init_14 : decode c_M_init 14 = .ok (.sipush 4096, 3) := by decide +kernel
theorem d_M_init_17 : decode c_M_init 17 = .ok (.newarray .int, 2) := by decide +kernel
theorem d_M_init_19 : decode c_M_init 19 = .ok (.putfield 13, 3) := by decide +kernel
theorem d_M_init_22 : decode c_M_init 22 = .ok (.aload_n 0, 1) := by decide +kernel
theorem d_M_init_23 : decode c_M_init 23 = .ok (.sipush 4096, 3) := by decide +kernel
theorem d_M_init_26 : decode c_M_init 26 = .ok (.newarray .int, 2) := by decide +kernel
theorem d_M_init_28 : decode c_M_init 28 = .ok (.putfield 17, 3) := by decide +kernel
theorem d_M_init_31 : decode c_M_init 31 = .ok (.aload_n 0, 1) := by decide +kernel
theorem d_M_init_32 : decode c_M_init 32 = .ok (.sipush 4096, 3) := by decide +kernel
theorem d_M_init_35 : decode c_M_init 35 = .ok (.newarray .int, 2) := by decide +kernel
theorem d_M_init_37 : decode c_M_init 37 = .ok (.putfield 20, 3) := by decide +kernel
theorem d_M_init_40 : decode c_M_init 40 = .ok (.aload_n 0, 1) := by decide +kernel
theorem d_M_init_41 : decode c_M_init 41 = .ok (.sipush 4096, 3) := by decide +kernel
theorem d_M_init_44 : decode c_M_init 44 = .ok (.newarray .int, 2) := by decide +kernel
theorem d_M_init_46 : decode c_M_init 46 = .ok (.putfield 23, 3) := by decide +kernel
theorem d_M_init_49 : decode c_M_init 49 = .ok (.aload_n 0, 1) := by decide +kernel
theorem d_M_init_50 : decode c_M_init 50 = .ok (.sipush 4096, 3) := by decide +kernel
theorem d_M_init_53 : decode c_M_init 53 = .ok (.newarray .int, 2) := by decide +kernel
theorem d_M_init_55 : decode c_M_init 55 = .ok (.putfield 26, 3) := by decide +kernel
theorem d_M_init_58 : decode c_M_init 58 = .ok (.return_, 1) := by decide +kernel
theorem d_M_thrown_0 : decode c_M_thrown 0 = .ok (.aload_n 0, 1) := by decide +kernel
theorem d_M_thrown_1 : decode c_M_thrown 1 = .ok (.getfield 29, 3) := by decide +kernel
theorem d_M_thrown_4 : decode c_M_thrown 4 = .ok (.ireturn, 1) := by decide +kernel
theorem d_M_put_0 : decode c_M_put 0 = .ok (.aload_n 0, 1) := by decide +kernel
theorem d_M_put_1 : decode c_M_put 1 = .ok (.iconst 0, 1) := by decide +kernel
theorem d_M_put_2 : decode c_M_put 2 = .ok (.putfield 29, 3) := by decide +kernel
theorem d_M_put_5 : decode c_M_put 5 = .ok (.iload_n 1, 1) := by decide +kernel
theorem d_M_put_6 : decode c_M_put 6 = .ok (.iconst 0, 1) := by decide +kernel
theorem d_M_put_7 : decode c_M_put 7 = .ok (.sipush 4095, 3) := by decide +kernel
theorem d_M_put_10 : decode c_M_put 10 = .ok (.invokestatic 35, 3) := by decide +kernel
theorem d_M_put_13 : decode c_M_put 13 = .ok (.ifCond .ne 17, 3) := by decide +kernel
theorem d_M_put_16 : decode c_M_put 16 = .ok (.aload_n 0, 1) := by decide +kernel
theorem d_M_put_17 : decode c_M_put 17 = .ok (.iconst 1, 1) := by decide +kernel
theorem d_M_put_18 : decode c_M_put 18 = .ok (.invokevirtual 43, 3) := by decide +kernel
theorem d_M_put_21 : decode c_M_put 21 = .ok (.ifCond .le 7, 3) := by decide +kernel
theorem d_M_put_24 : decode c_M_put 24 = .ok (.iconst 1, 1) := by decide +kernel
theorem d_M_put_25 : decode c_M_put 25 = .ok (.goto 4, 3) := by decide +kernel
theorem d_M_put_28 : decode c_M_put 28 = .ok (.iconst 0, 1) := by decide +kernel
theorem d_M_put_29 : decode c_M_put 29 = .ok (.ireturn, 1) := by decide +kernel
theorem d_M_put_30 : decode c_M_put 30 = .ok (.iload_n 2, 1) := by decide +kernel
theorem d_M_put_31 : decode c_M_put 31 = .ok (.iload_n 3, 1) := by decide +kernel
theorem d_M_put_32 : decode c_M_put 32 = .ok (.iload 4, 2) := by decide +kernel
theorem d_M_put_34 : decode c_M_put 34 = .ok (.iload 5, 2) := by decide +kernel
theorem d_M_put_36 : decode c_M_put 36 = .ok (.invokestatic 47, 3) := by decide +kernel
theorem d_M_put_39 : decode c_M_put 39 = .ok (.ifCond .ne 17, 3) := by decide +kernel
theorem d_M_put_42 : decode c_M_put 42 = .ok (.aload_n 0, 1) := by decide +kernel
theorem d_M_put_43 : decode c_M_put 43 = .ok (.iconst 2, 1) := by decide +kernel
theorem d_M_put_44 : decode c_M_put 44 = .ok (.invokevirtual 43, 3) := by decide +kernel
theorem d_M_put_47 : decode c_M_put 47 = .ok (.ifCond .le 7, 3) := by decide +kernel
theorem d_M_put_50 : decode c_M_put 50 = .ok (.iconst 1, 1) := by decide +kernel
theorem d_M_put_51 : decode c_M_put 51 = .ok (.goto 4, 3) := by decide +kernel
theorem d_M_put_54 : decode c_M_put 54 = .ok (.iconst 0, 1) := by decide +kernel
theorem d_M_put_55 : decode c_M_put 55 = .ok (.ireturn, 1) := by decide +kernel
theorem d_M_put_56 : decode c_M_put 56 = .ok (.aload_n 0, 1) := by decide +kernel
theorem d_M_put_57 : decode c_M_put 57 = .ok (.getfield 7, 3) := by decide +kernel
theorem d_M_put_60 : decode c_M_put 60 = .ok (.iload_n 1, 1) := by decide +kernel
theorem d_M_put_61 : decode c_M_put 61 = .ok (.baload, 1) := by decide +kernel
theorem d_M_put_62 : decode c_M_put 62 = .ok (.istore 6, 2) := by decide +kernel
theorem d_M_put_64 : decode c_M_put 64 = .ok (.aload_n 0, 1) := by decide +kernel
theorem d_M_put_65 : decode c_M_put 65 = .ok (.getfield 7, 3) := by decide +kernel
theorem d_M_put_68 : decode c_M_put 68 = .ok (.iload_n 1, 1) := by decide +kernel
theorem d_M_put_69 : decode c_M_put 69 = .ok (.iconst 1, 1) := by decide +kernel
theorem d_M_put_70 : decode c_M_put 70 = .ok (.bastore, 1) := by decide +kernel
theorem d_M_put_71 : decode c_M_put 71 = .ok (.aload_n 0, 1) := by decide +kernel
theorem d_M_put_72 : decode c_M_put 72 = .ok (.getfield 13, 3) := by decide +kernel
theorem d_M_put_75 : decode c_M_put 75 = .ok (.iload_n 1, 1) := by decide +kernel
theorem d_M_put_76 : decode c_M_put 76 = .ok (.iload_n 2, 1) := by decide +kernel
theorem d_M_put_77 : decode c_M_put 77 = .ok (.iastore, 1) := by decide +kernel
theorem d_M_put_78 : decode c_M_put 78 = .ok (.aload_n 0, 1) := by decide +kernel
theorem d_M_put_79 : decode c_M_put 79 = .ok (.getfield 17, 3) := by decide +kernel
theorem d_M_put_82 : decode c_M_put 82 = .ok (.iload_n 1, 1) := by decide +kernel
theorem d_M_put_83 : decode c_M_put 83 = .ok (.iload_n 3, 1) := by decide +kernel
theorem d_M_put_84 : decode c_M_put 84 = .ok (.iastore, 1) := by decide +kernel
theorem d_M_put_85 : decode c_M_put 85 = .ok (.aload_n 0, 1) := by decide +kernel
theorem d_M_put_86 : decode c_M_put 86 = .ok (.getfield 20, 3) := by decide +kernel
theorem d_M_put_89 : decode c_M_put 89 = .ok (.iload_n 1, 1) := by decide +kernel
theorem d_M_put_90 : decode c_M_put 90 = .ok (.iload 4, 2) := by decide +kernel
theorem d_M_put_92 : decode c_M_put 92 = .ok (.iastore, 1) := by decide +kernel
theorem d_M_put_93 : decode c_M_put 93 = .ok (.aload_n 0, 1) := by decide +kernel
theorem d_M_put_94 : decode c_M_put 94 = .ok (.getfield 23, 3) := by decide +kernel
theorem d_M_put_97 : decode c_M_put 97 = .ok (.iload_n 1, 1) := by decide +kernel
theorem d_M_put_98 : decode c_M_put 98 = .ok (.iload 5, 2) := by decide +kernel
theorem d_M_put_100 : decode c_M_put 100 = .ok (.iastore, 1) := by decide +kernel
theorem d_M_put_101 : decode c_M_put 101 = .ok (.iload 6, 2) := by decide +kernel
theorem d_M_put_103 : decode c_M_put 103 = .ok (.ireturn, 1) := by decide +kernel
theorem d_M_within_0 : decode c_M_within 0 = .ok (.iload_n 0, 1) := by decide +kernel
theorem d_M_within_1 : decode c_M_within 1 = .ok (.iload_n 1, 1) := by decide +kernel
theorem d_M_within_2 : decode c_M_within 2 = .ok (.if_icmp .lt 12, 3) := by decide +kernel
theorem d_M_within_5 : decode c_M_within 5 = .ok (.iload_n 0, 1) := by decide +kernel
theorem d_M_within_6 : decode c_M_within 6 = .ok (.iload_n 2, 1) := by decide +kernel
theorem d_M_within_7 : decode c_M_within 7 = .ok (.if_icmp .gt 7, 3) := by decide +kernel
theorem d_M_within_10 : decode c_M_within 10 = .ok (.iconst 1, 1) := by decide +kernel
theorem d_M_within_11 : decode c_M_within 11 = .ok (.goto 4, 3) := by decide +kernel
theorem d_M_within_14 : decode c_M_within 14 = .ok (.iconst 0, 1) := by decide +kernel
theorem d_M_within_15 : decode c_M_within 15 = .ok (.ireturn, 1) := by decide +kernel
theorem d_M_fail_0 : decode c_M_fail 0 = .ok (.aload_n 0, 1) := by decide +kernel
theorem d_M_fail_1 : decode c_M_fail 1 = .ok (.iload_n 1, 1) := by decide +kernel
theorem d_M_fail_2 : decode c_M_fail 2 = .ok (.putfield 29, 3) := by decide +kernel
theorem d_M_fail_5 : decode c_M_fail 5 = .ok (.iconst 0, 1) := by decide +kernel
theorem d_M_fail_6 : decode c_M_fail 6 = .ok (.ireturn, 1) := by decide +kernel
theorem d_M_areBounds_0 : decode c_M_areBounds 0 = .ok (.iload_n 0, 1) := by decide +kernel
theorem d_M_areBounds_1 : decode c_M_areBounds 1 = .ok (.invokestatic 39, 3) := by decide +kernel
theorem d_M_areBounds_4 : decode c_M_areBounds 4 = .ok (.ifCond .ne 38, 3) := by decide +kernel
theorem d_M_areBounds_7 : decode c_M_areBounds 7 = .ok (.iload_n 1, 1) := by decide +kernel
theorem d_M_areBounds_8 : decode c_M_areBounds 8 = .ok (.invokestatic 39, 3) := by decide +kernel
theorem d_M_areBounds_11 : decode c_M_areBounds 11 = .ok (.ifCond .ne 31, 3) := by decide +kernel
theorem d_M_areBounds_14 : decode c_M_areBounds 14 = .ok (.iload_n 2, 1) := by decide +kernel
theorem d_M_areBounds_15 : decode c_M_areBounds 15 = .ok (.invokestatic 39, 3) := by decide +kernel
theorem d_M_areBounds_18 : decode c_M_areBounds 18 = .ok (.ifCond .ne 24, 3) := by decide +kernel
theorem d_M_areBounds_21 : decode c_M_areBounds 21 = .ok (.iload_n 3, 1) := by decide +kernel
theorem d_M_areBounds_22 : decode c_M_areBounds 22 = .ok (.invokestatic 39, 3) := by decide +kernel
theorem d_M_areBounds_25 : decode c_M_areBounds 25 = .ok (.ifCond .ne 17, 3) := by decide +kernel
theorem d_M_areBounds_28 : decode c_M_areBounds 28 = .ok (.iload_n 0, 1) := by decide +kernel
theorem d_M_areBounds_29 : decode c_M_areBounds 29 = .ok (.iload_n 2, 1) := by decide +kernel
theorem d_M_areBounds_30 : decode c_M_areBounds 30 = .ok (.if_icmp .gt 12, 3) := by decide +kernel
theorem d_M_areBounds_33 : decode c_M_areBounds 33 = .ok (.iload_n 1, 1) := by decide +kernel
theorem d_M_areBounds_34 : decode c_M_areBounds 34 = .ok (.iload_n 3, 1) := by decide +kernel
theorem d_M_areBounds_35 : decode c_M_areBounds 35 = .ok (.if_icmp .gt 7, 3) := by decide +kernel
theorem d_M_areBounds_38 : decode c_M_areBounds 38 = .ok (.iconst 1, 1) := by decide +kernel
theorem d_M_areBounds_39 : decode c_M_areBounds 39 = .ok (.goto 4, 3) := by decide +kernel
theorem d_M_areBounds_42 : decode c_M_areBounds 42 = .ok (.iconst 0, 1) := by decide +kernel
theorem d_M_areBounds_43 : decode c_M_areBounds 43 = .ok (.ireturn, 1) := by decide +kernel
theorem d_M_isFar_0 : decode c_M_isFar 0 = .ok (.iload_n 0, 1) := by decide +kernel
theorem d_M_isFar_1 : decode c_M_isFar 1 = .ok (.ldc 33, 2) := by decide +kernel
theorem d_M_isFar_3 : decode c_M_isFar 3 = .ok (.ldc 34, 2) := by decide +kernel
theorem d_M_isFar_5 : decode c_M_isFar 5 = .ok (.invokestatic 35, 3) := by decide +kernel
theorem d_M_isFar_8 : decode c_M_isFar 8 = .ok (.ifCond .ne 7, 3) := by decide +kernel
theorem d_M_isFar_11 : decode c_M_isFar 11 = .ok (.iconst 1, 1) := by decide +kernel
theorem d_M_isFar_12 : decode c_M_isFar 12 = .ok (.goto 4, 3) := by decide +kernel
theorem d_M_isFar_15 : decode c_M_isFar 15 = .ok (.iconst 0, 1) := by decide +kernel
theorem d_M_isFar_16 : decode c_M_isFar 16 = .ok (.ireturn, 1) := by decide +kernel
end
section
/-! decode rows, by program -/
theorem d_M_take_0 : decode c_M_take 0 = .ok (.aload_n 0, 1) := by decide +kernel
theorem d_M_take_1 : decode c_M_take 1 = .ok (.iconst 0, 1) := by decide +kernel
theorem d_M_take_2 : decode c_M_take 2 = .ok (.putfield 29, 3) := by decide +kernel
theorem d_M_take_5 : decode c_M_take 5 = .ok (.iload_n 1, 1) := by decide +kernel
theorem d_M_take_6 : decode c_M_take 6 = .ok (.iconst 0, 1) := by decide +kernel
theorem d_M_take_7 : decode c_M_take 7 = .ok (.sipush 4095, 3) := by decide +kernel
theorem d_M_take_10 : decode c_M_take 10 = .ok (.invokestatic 35, 3) := by decide +kernel
theorem d_M_take_13 : decode c_M_take 13 = .ok (.ifCond .ne 17, 3) := by decide +kernel
theorem d_M_take_16 : decode c_M_take 16 = .ok (.aload_n 0, 1) := by decide +kernel
theorem d_M_take_17 : decode c_M_take 17 = .ok (.iconst 1, 1) := by decide +kernel
theorem d_M_take_18 : decode c_M_take 18 = .ok (.invokevirtual 43, 3) := by decide +kernel
theorem d_M_take_21 : decode c_M_take 21 = .ok (.ifCond .le 7, 3) := by decide +kernel
theorem d_M_take_24 : decode c_M_take 24 = .ok (.iconst 1, 1) := by decide +kernel
theorem d_M_take_25 : decode c_M_take 25 = .ok (.goto 4, 3) := by decide +kernel
theorem d_M_take_28 : decode c_M_take 28 = .ok (.iconst 0, 1) := by decide +kernel
theorem d_M_take_29 : decode c_M_take 29 = .ok (.ireturn, 1) := by decide +kernel
theorem d_M_take_30 : decode c_M_take 30 = .ok (.aload_n 0, 1) := by decide +kernel
theorem d_M_take_31 : decode c_M_take 31 = .ok (.getfield 7, 3) := by decide +kernel
theorem d_M_take_34 : decode c_M_take 34 = .ok (.iload_n 1, 1) := by decide +kernel
theorem d_M_take_35 : decode c_M_take 35 = .ok (.baload, 1) := by decide +kernel
theorem d_M_take_36 : decode c_M_take 36 = .ok (.istore_n 2, 1) := by decide +kernel
theorem d_M_take_37 : decode c_M_take 37 = .ok (.aload_n 0, 1) := by decide +kernel
theorem d_M_take_38 : decode c_M_take 38 = .ok (.getfield 7, 3) := by decide +kernel
theorem d_M_take_41 : decode c_M_take 41 = .ok (.iload_n 1, 1) := by decide +kernel
theorem d_M_take_42 : decode c_M_take 42 = .ok (.iconst 0, 1) := by decide +kernel
theorem d_M_take_43 : decode c_M_take 43 = .ok (.bastore, 1) := by decide +kernel
theorem d_M_take_44 : decode c_M_take 44 = .ok (.iload_n 2, 1) := by decide +kernel
theorem d_M_take_45 : decode c_M_take 45 = .ok (.ireturn, 1) := by decide +kernel
theorem d_M_clear_0 : decode c_M_clear 0 = .ok (.aload_n 0, 1) := by decide +kernel
theorem d_M_clear_1 : decode c_M_clear 1 = .ok (.iconst 0, 1) := by decide +kernel
theorem d_M_clear_2 : decode c_M_clear 2 = .ok (.putfield 29, 3) := by decide +kernel
theorem d_M_clear_5 : decode c_M_clear 5 = .ok (.aload_n 0, 1) := by decide +kernel
theorem d_M_clear_6 : decode c_M_clear 6 = .ok (.invokevirtual 51, 3) := by decide +kernel
theorem d_M_clear_9 : decode c_M_clear 9 = .ok (.istore_n 1, 1) := by decide +kernel
theorem d_M_clear_10 : decode c_M_clear 10 = .ok (.iconst 0, 1) := by decide +kernel
theorem d_M_clear_11 : decode c_M_clear 11 = .ok (.istore_n 2, 1) := by decide +kernel
theorem d_M_clear_12 : decode c_M_clear 12 = .ok (.iload_n 2, 1) := by decide +kernel
theorem d_M_clear_13 : decode c_M_clear 13 = .ok (.sipush 4096, 3) := by decide +kernel
theorem d_M_clear_16 : decode c_M_clear 16 = .ok (.if_icmp .ge 16, 3) := by decide +kernel
theorem d_M_clear_19 : decode c_M_clear 19 = .ok (.aload_n 0, 1) := by decide +kernel
theorem d_M_clear_20 : decode c_M_clear 20 = .ok (.getfield 7, 3) := by decide +kernel
theorem d_M_clear_23 : decode c_M_clear 23 = .ok (.iload_n 2, 1) := by decide +kernel
theorem d_M_clear_24 : decode c_M_clear 24 = .ok (.iconst 0, 1) := by decide +kernel
theorem d_M_clear_25 : decode c_M_clear 25 = .ok (.bastore, 1) := by decide +kernel
theorem d_M_clear_26 : decode c_M_clear 26 = .ok (.iinc 2 1, 3) := by decide +kernel
theorem d_M_clear_29 : decode c_M_clear 29 = .ok (.goto (-17), 3) := by decide +kernel
theorem d_M_clear_32 : decode c_M_clear 32 = .ok (.iload_n 1, 1) := by decide +kernel
theorem d_M_clear_33 : decode c_M_clear 33 = .ok (.ireturn, 1) := by decide +kernel
theorem d_M_many_0 : decode c_M_many 0 = .ok (.iconst 0, 1) := by decide +kernel
theorem d_M_many_1 : decode c_M_many 1 = .ok (.istore_n 1, 1) := by decide +kernel
theorem d_M_many_2 : decode c_M_many 2 = .ok (.iconst 0, 1) := by decide +kernel
theorem d_M_many_3 : decode c_M_many 3 = .ok (.istore_n 2, 1) := by decide +kernel
theorem d_M_many_4 : decode c_M_many 4 = .ok (.iload_n 2, 1) := by decide +kernel
theorem d_M_many_5 : decode c_M_many 5 = .ok (.sipush 4096, 3) := by decide +kernel
theorem d_M_many_8 : decode c_M_many 8 = .ok (.if_icmp .ge 26, 3) := by decide +kernel
theorem d_M_many_11 : decode c_M_many 11 = .ok (.iload_n 1, 1) := by decide +kernel
theorem d_M_many_12 : decode c_M_many 12 = .ok (.aload_n 0, 1) := by decide +kernel
theorem d_M_many_13 : decode c_M_many 13 = .ok (.getfield 7, 3) := by decide +kernel
theorem d_M_many_16 : decode c_M_many 16 = .ok (.iload_n 2, 1) := by decide +kernel
theorem d_M_many_17 : decode c_M_many 17 = .ok (.baload, 1) := by decide +kernel
theorem d_M_many_18 : decode c_M_many 18 = .ok (.ifCond .eq 7, 3) := by decide +kernel
theorem d_M_many_21 : decode c_M_many 21 = .ok (.iconst 1, 1) := by decide +kernel
theorem d_M_many_22 : decode c_M_many 22 = .ok (.goto 4, 3) := by decide +kernel
theorem d_M_many_25 : decode c_M_many 25 = .ok (.iconst 0, 1) := by decide +kernel
theorem d_M_many_26 : decode c_M_many 26 = .ok (.iadd, 1) := by decide +kernel
theorem d_M_many_27 : decode c_M_many 27 = .ok (.istore_n 1, 1) := by decide +kernel
theorem d_M_many_28 : decode c_M_many 28 = .ok (.iinc 2 1, 3) := by decide +kernel
theorem d_M_many_31 : decode c_M_many 31 = .ok (.goto (-27), 3) := by decide +kernel
theorem d_M_many_34 : decode c_M_many 34 = .ok (.iload_n 1, 1) := by decide +kernel
theorem d_M_many_35 : decode c_M_many 35 = .ok (.ireturn, 1) := by decide +kernel
theorem d_M_find_0 : decode c_M_find 0 = .ok (.aload_n 0, 1) := by decide +kernel
theorem d_M_find_1 : decode c_M_find 1 = .ok (.iconst 0, 1) := by decide +kernel
theorem d_M_find_2 : decode c_M_find 2 = .ok (.putfield 29, 3) := by decide +kernel
theorem d_M_find_5 : decode c_M_find 5 = .ok (.iload_n 1, 1) := by decide +kernel
theorem d_M_find_6 : decode c_M_find 6 = .ok (.iconst 0, 1) := by decide +kernel
theorem d_M_find_7 : decode c_M_find 7 = .ok (.iconst 2, 1) := by decide +kernel
theorem d_M_find_8 : decode c_M_find 8 = .ok (.invokestatic 35, 3) := by decide +kernel
theorem d_M_find_11 : decode c_M_find 11 = .ok (.ifCond .eq 15, 3) := by decide +kernel
theorem d_M_find_14 : decode c_M_find 14 = .ok (.iload_n 2, 1) := by decide +kernel
theorem d_M_find_15 : decode c_M_find 15 = .ok (.iload_n 3, 1) := by decide +kernel
theorem d_M_find_16 : decode c_M_find 16 = .ok (.iload 4, 2) := by decide +kernel
theorem d_M_find_18 : decode c_M_find 18 = .ok (.iload 5, 2) := by decide +kernel
theorem d_M_find_20 : decode c_M_find 20 = .ok (.invokestatic 47, 3) := by decide +kernel
theorem d_M_find_23 : decode c_M_find 23 = .ok (.ifCond .ne 9, 3) := by decide +kernel
theorem d_M_find_26 : decode c_M_find 26 = .ok (.aload_n 0, 1) := by decide +kernel
theorem d_M_find_27 : decode c_M_find 27 = .ok (.iconst 1, 1) := by decide +kernel
theorem d_M_find_28 : decode c_M_find 28 = .ok (.invokevirtual 43, 3) := by decide +kernel
theorem d_M_find_31 : decode c_M_find 31 = .ok (.ireturn, 1) := by decide +kernel
theorem d_M_find_32 : decode c_M_find 32 = .ok (.aload_n 0, 1) := by decide +kernel
theorem d_M_find_33 : decode c_M_find 33 = .ok (.iconst 0, 1) := by decide +kernel
theorem d_M_find_34 : decode c_M_find 34 = .ok (.putfield 55, 3) := by decide +kernel
theorem d_M_find_37 : decode c_M_find 37 = .ok (.iconst 0, 1) := by decide +kernel
theorem d_M_find_38 : decode c_M_find 38 = .ok (.istore 6, 2) := by decide +kernel
theorem d_M_find_40 : decode c_M_find 40 = .ok (.iload 6, 2) := by decide +kernel
theorem d_M_find_42 : decode c_M_find 42 = .ok (.sipush 4096, 3) := by decide +kernel
theorem d_M_find_45 : decode c_M_find 45 = .ok (.if_icmp .ge 112, 3) := by decide +kernel
theorem d_M_find_48 : decode c_M_find 48 = .ok (.aload_n 0, 1) := by decide +kernel
theorem d_M_find_49 : decode c_M_find 49 = .ok (.getfield 7, 3) := by decide +kernel
theorem d_M_find_52 : decode c_M_find 52 = .ok (.iload 6, 2) := by decide +kernel
theorem d_M_find_54 : decode c_M_find 54 = .ok (.baload, 1) := by decide +kernel
theorem d_M_find_55 : decode c_M_find 55 = .ok (.ifCond .eq 67, 3) := by decide +kernel
theorem d_M_find_58 : decode c_M_find 58 = .ok (.iload_n 1, 1) := by decide +kernel
theorem d_M_find_59 : decode c_M_find 59 = .ok (.ifCond .ne 21, 3) := by decide +kernel
theorem d_M_find_62 : decode c_M_find 62 = .ok (.aload_n 0, 1) := by decide +kernel
theorem d_M_find_63 : decode c_M_find 63 = .ok (.iload 6, 2) := by decide +kernel
theorem d_M_find_65 : decode c_M_find 65 = .ok (.iload_n 2, 1) := by decide +kernel
theorem d_M_find_66 : decode c_M_find 66 = .ok (.iload_n 3, 1) := by decide +kernel
theorem d_M_find_67 : decode c_M_find 67 = .ok (.iload 4, 2) := by decide +kernel
theorem d_M_find_69 : decode c_M_find 69 = .ok (.iload 5, 2) := by decide +kernel
theorem d_M_find_71 : decode c_M_find 71 = .ok (.invokevirtual 58, 3) := by decide +kernel
theorem d_M_find_74 : decode c_M_find 74 = .ok (.ifCond .eq 48, 3) := by decide +kernel
theorem d_M_find_77 : decode c_M_find 77 = .ok (.goto 41, 3) := by decide +kernel
theorem d_M_find_80 : decode c_M_find 80 = .ok (.iload_n 1, 1) := by decide +kernel
theorem d_M_find_81 : decode c_M_find 81 = .ok (.iconst 1, 1) := by decide +kernel
theorem d_M_find_82 : decode c_M_find 82 = .ok (.if_icmp .ne 21, 3) := by decide +kernel
theorem d_M_find_85 : decode c_M_find 85 = .ok (.aload_n 0, 1) := by decide +kernel
theorem d_M_find_86 : decode c_M_find 86 = .ok (.iload 6, 2) := by decide +kernel
theorem d_M_find_88 : decode c_M_find 88 = .ok (.iload_n 2, 1) := by decide +kernel
theorem d_M_find_89 : decode c_M_find 89 = .ok (.iload_n 3, 1) := by decide +kernel
theorem d_M_find_90 : decode c_M_find 90 = .ok (.iload 4, 2) := by decide +kernel
theorem d_M_find_92 : decode c_M_find 92 = .ok (.iload 5, 2) := by decide +kernel
theorem d_M_find_94 : decode c_M_find 94 = .ok (.invokevirtual 62, 3) := by decide +kernel
theorem d_M_find_97 : decode c_M_find 97 = .ok (.ifCond .eq 25, 3) := by decide +kernel
theorem d_M_find_100 : decode c_M_find 100 = .ok (.goto 18, 3) := by decide +kernel
theorem d_M_find_103 : decode c_M_find 103 = .ok (.aload_n 0, 1) := by decide +kernel
theorem d_M_find_104 : decode c_M_find 104 = .ok (.iload 6, 2) := by decide +kernel
theorem d_M_find_106 : decode c_M_find 106 = .ok (.iload_n 2, 1) := by decide +kernel
theorem d_M_find_107 : decode c_M_find 107 = .ok (.iload_n 3, 1) := by decide +kernel
theorem d_M_find_108 : decode c_M_find 108 = .ok (.iload 4, 2) := by decide +kernel
theorem d_M_find_110 : decode c_M_find 110 = .ok (.iload 5, 2) := by decide +kernel
theorem d_M_find_112 : decode c_M_find 112 = .ok (.invokevirtual 65, 3) := by decide +kernel
theorem d_M_find_115 : decode c_M_find 115 = .ok (.ifCond .eq 7, 3) := by decide +kernel
theorem d_M_find_118 : decode c_M_find 118 = .ok (.iconst 1, 1) := by decide +kernel
theorem d_M_find_119 : decode c_M_find 119 = .ok (.goto 4, 3) := by decide +kernel
theorem d_M_find_122 : decode c_M_find 122 = .ok (.iconst 0, 1) := by decide +kernel
theorem d_M_find_123 : decode c_M_find 123 = .ok (.istore 7, 2) := by decide +kernel
theorem d_M_find_125 : decode c_M_find 125 = .ok (.iload 7, 2) := by decide +kernel
theorem d_M_find_127 : decode c_M_find 127 = .ok (.ifCond .eq 24, 3) := by decide +kernel
theorem d_M_find_130 : decode c_M_find 130 = .ok (.aload_n 0, 1) := by decide +kernel
theorem d_M_find_131 : decode c_M_find 131 = .ok (.getfield 26, 3) := by decide +kernel
theorem d_M_find_134 : decode c_M_find 134 = .ok (.aload_n 0, 1) := by decide +kernel
theorem d_M_find_135 : decode c_M_find 135 = .ok (.getfield 55, 3) := by decide +kernel
theorem d_M_find_138 : decode c_M_find 138 = .ok (.iload 6, 2) := by decide +kernel
theorem d_M_find_140 : decode c_M_find 140 = .ok (.iastore, 1) := by decide +kernel
theorem d_M_find_141 : decode c_M_find 141 = .ok (.aload_n 0, 1) := by decide +kernel
theorem d_M_find_142 : decode c_M_find 142 = .ok (.dup, 1) := by decide +kernel
theorem d_M_find_143 : decode c_M_find 143 = .ok (.getfield 55, 3) := by decide +kernel
theorem d_M_find_146 : decode c_M_find 146 = .ok (.iconst 1, 1) := by decide +kernel
theorem d_M_find_147 : decode c_M_find 147 = .ok (.iadd, 1) := by decide +kernel
theorem d_M_find_148 : decode c_M_find 148 = .ok (.putfield 55, 3) := by decide +kernel
theorem d_M_find_151 : decode c_M_find 151 = .ok (.iinc 6 1, 3) := by decide +kernel
theorem d_M_find_154 : decode c_M_find 154 = .ok (.goto (-114), 3) := by decide +kernel
theorem d_M_find_157 : decode c_M_find 157 = .ok (.aload_n 0, 1) := by decide +kernel
theorem d_M_find_158 : decode c_M_find 158 = .ok (.getfield 55, 3) := by decide +kernel
theorem d_M_find_161 : decode c_M_find 161 = .ok (.ireturn, 1) := by decide +kernel
theorem d_M_meets_0 : decode c_M_meets 0 = .ok (.aload_n 0, 1) := by decide +kernel
theorem d_M_meets_1 : decode c_M_meets 1 = .ok (.getfield 13, 3) := by decide +kernel
theorem d_M_meets_4 : decode c_M_meets 4 = .ok (.iload_n 1, 1) := by decide +kernel
theorem d_M_meets_5 : decode c_M_meets 5 = .ok (.iaload, 1) := by decide +kernel
theorem d_M_meets_6 : decode c_M_meets 6 = .ok (.iload 4, 2) := by decide +kernel
theorem d_M_meets_8 : decode c_M_meets 8 = .ok (.if_icmp .gt 38, 3) := by decide +kernel
theorem d_M_meets_11 : decode c_M_meets 11 = .ok (.aload_n 0, 1) := by decide +kernel
theorem d_M_meets_12 : decode c_M_meets 12 = .ok (.getfield 20, 3) := by decide +kernel
theorem d_M_meets_15 : decode c_M_meets 15 = .ok (.iload_n 1, 1) := by decide +kernel
theorem d_M_meets_16 : decode c_M_meets 16 = .ok (.iaload, 1) := by decide +kernel
theorem d_M_meets_17 : decode c_M_meets 17 = .ok (.iload_n 2, 1) := by decide +kernel
theorem d_M_meets_18 : decode c_M_meets 18 = .ok (.if_icmp .lt 28, 3) := by decide +kernel
theorem d_M_meets_21 : decode c_M_meets 21 = .ok (.aload_n 0, 1) := by decide +kernel
theorem d_M_meets_22 : decode c_M_meets 22 = .ok (.getfield 17, 3) := by decide +kernel
theorem d_M_meets_25 : decode c_M_meets 25 = .ok (.iload_n 1, 1) := by decide +kernel
theorem d_M_meets_26 : decode c_M_meets 26 = .ok (.iaload, 1) := by decide +kernel
theorem d_M_meets_27 : decode c_M_meets 27 = .ok (.iload 5, 2) := by decide +kernel
theorem d_M_meets_29 : decode c_M_meets 29 = .ok (.if_icmp .gt 17, 3) := by decide +kernel
theorem d_M_meets_32 : decode c_M_meets 32 = .ok (.aload_n 0, 1) := by decide +kernel
theorem d_M_meets_33 : decode c_M_meets 33 = .ok (.getfield 23, 3) := by decide +kernel
theorem d_M_meets_36 : decode c_M_meets 36 = .ok (.iload_n 1, 1) := by decide +kernel
theorem d_M_meets_37 : decode c_M_meets 37 = .ok (.iaload, 1) := by decide +kernel
theorem d_M_meets_38 : decode c_M_meets 38 = .ok (.iload_n 3, 1) := by decide +kernel
theorem d_M_meets_39 : decode c_M_meets 39 = .ok (.if_icmp .lt 7, 3) := by decide +kernel
theorem d_M_meets_42 : decode c_M_meets 42 = .ok (.iconst 1, 1) := by decide +kernel
theorem d_M_meets_43 : decode c_M_meets 43 = .ok (.goto 4, 3) := by decide +kernel
theorem d_M_meets_46 : decode c_M_meets 46 = .ok (.iconst 0, 1) := by decide +kernel
theorem d_M_meets_47 : decode c_M_meets 47 = .ok (.ireturn, 1) := by decide +kernel
theorem d_M_lies_0 : decode c_M_lies 0 = .ok (.aload_n 0, 1) := by decide +kernel
theorem d_M_lies_1 : decode c_M_lies 1 = .ok (.getfield 13, 3) := by decide +kernel
theorem d_M_lies_4 : decode c_M_lies 4 = .ok (.iload_n 1, 1) := by decide +kernel
theorem d_M_lies_5 : decode c_M_lies 5 = .ok (.iaload, 1) := by decide +kernel
theorem d_M_lies_6 : decode c_M_lies 6 = .ok (.iload_n 2, 1) := by decide +kernel
theorem d_M_lies_7 : decode c_M_lies 7 = .ok (.if_icmp .lt 39, 3) := by decide +kernel
theorem d_M_lies_10 : decode c_M_lies 10 = .ok (.aload_n 0, 1) := by decide +kernel
theorem d_M_lies_11 : decode c_M_lies 11 = .ok (.getfield 20, 3) := by decide +kernel
theorem d_M_lies_14 : decode c_M_lies 14 = .ok (.iload_n 1, 1) := by decide +kernel
theorem d_M_lies_15 : decode c_M_lies 15 = .ok (.iaload, 1) := by decide +kernel
theorem d_M_lies_16 : decode c_M_lies 16 = .ok (.iload 4, 2) := by decide +kernel
theorem d_M_lies_18 : decode c_M_lies 18 = .ok (.if_icmp .gt 28, 3) := by decide +kernel
theorem d_M_lies_21 : decode c_M_lies 21 = .ok (.aload_n 0, 1) := by decide +kernel
theorem d_M_lies_22 : decode c_M_lies 22 = .ok (.getfield 17, 3) := by decide +kernel
theorem d_M_lies_25 : decode c_M_lies 25 = .ok (.iload_n 1, 1) := by decide +kernel
theorem d_M_lies_26 : decode c_M_lies 26 = .ok (.iaload, 1) := by decide +kernel
theorem d_M_lies_27 : decode c_M_lies 27 = .ok (.iload_n 3, 1) := by decide +kernel
theorem d_M_lies_28 : decode c_M_lies 28 = .ok (.if_icmp .lt 18, 3) := by decide +kernel
theorem d_M_lies_31 : decode c_M_lies 31 = .ok (.aload_n 0, 1) := by decide +kernel
theorem d_M_lies_32 : decode c_M_lies 32 = .ok (.getfield 23, 3) := by decide +kernel
theorem d_M_lies_35 : decode c_M_lies 35 = .ok (.iload_n 1, 1) := by decide +kernel
theorem d_M_lies_36 : decode c_M_lies 36 = .ok (.iaload, 1) := by decide +kernel
theorem d_M_lies_37 : decode c_M_lies 37 = .ok (.iload 5, 2) := by decide +kernel
theorem d_M_lies_39 : decode c_M_lies 39 = .ok (.if_icmp .gt 7, 3) := by decide +kernel
theorem d_M_lies_42 : decode c_M_lies 42 = .ok (.iconst 1, 1) := by decide +kernel
theorem d_M_lies_43 : decode c_M_lies 43 = .ok (.goto 4, 3) := by decide +kernel
theorem d_M_lies_46 : decode c_M_lies 46 = .ok (.iconst 0, 1) := by decide +kernel
theorem d_M_lies_47 : decode c_M_lies 47 = .ok (.ireturn, 1) := by decide +kernel
theorem d_M_has_0 : decode c_M_has 0 = .ok (.aload_n 0, 1) := by decide +kernel
theorem d_M_has_1 : decode c_M_has 1 = .ok (.getfield 13, 3) := by decide +kernel
theorem d_M_has_4 : decode c_M_has 4 = .ok (.iload_n 1, 1) := by decide +kernel
theorem d_M_has_5 : decode c_M_has 5 = .ok (.iaload, 1) := by decide +kernel
theorem d_M_has_6 : decode c_M_has 6 = .ok (.iload_n 2, 1) := by decide +kernel
theorem d_M_has_7 : decode c_M_has 7 = .ok (.if_icmp .gt 39, 3) := by decide +kernel
theorem d_M_has_10 : decode c_M_has 10 = .ok (.aload_n 0, 1) := by decide +kernel
theorem d_M_has_11 : decode c_M_has 11 = .ok (.getfield 20, 3) := by decide +kernel
theorem d_M_has_14 : decode c_M_has 14 = .ok (.iload_n 1, 1) := by decide +kernel
theorem d_M_has_15 : decode c_M_has 15 = .ok (.iaload, 1) := by decide +kernel
theorem d_M_has_16 : decode c_M_has 16 = .ok (.iload 4, 2) := by decide +kernel
theorem d_M_has_18 : decode c_M_has 18 = .ok (.if_icmp .lt 28, 3) := by decide +kernel
theorem d_M_has_21 : decode c_M_has 21 = .ok (.aload_n 0, 1) := by decide +kernel
theorem d_M_has_22 : decode c_M_has 22 = .ok (.getfield 17, 3) := by decide +kernel
theorem d_M_has_25 : decode c_M_has 25 = .ok (.iload_n 1, 1) := by decide +kernel
theorem d_M_has_26 : decode c_M_has 26 = .ok (.iaload, 1) := by decide +kernel
theorem d_M_has_27 : decode c_M_has 27 = .ok (.iload_n 3, 1) := by decide +kernel
theorem d_M_has_28 : decode c_M_has 28 = .ok (.if_icmp .gt 18, 3) := by decide +kernel
theorem d_M_has_31 : decode c_M_has 31 = .ok (.aload_n 0, 1) := by decide +kernel
theorem d_M_has_32 : decode c_M_has 32 = .ok (.getfield 23, 3) := by decide +kernel
theorem d_M_has_35 : decode c_M_has 35 = .ok (.iload_n 1, 1) := by decide +kernel
theorem d_M_has_36 : decode c_M_has 36 = .ok (.iaload, 1) := by decide +kernel
theorem d_M_has_37 : decode c_M_has 37 = .ok (.iload 5, 2) := by decide +kernel
theorem d_M_has_39 : decode c_M_has 39 = .ok (.if_icmp .lt 7, 3) := by decide +kernel
theorem d_M_has_42 : decode c_M_has 42 = .ok (.iconst 1, 1) := by decide +kernel
theorem d_M_has_43 : decode c_M_has 43 = .ok (.goto 4, 3) := by decide +kernel
theorem d_M_has_46 : decode c_M_has 46 = .ok (.iconst 0, 1) := by decide +kernel
theorem d_M_has_47 : decode c_M_has 47 = .ok (.ireturn, 1) := by decide +kernel
end
section
/-! decode rows, by program -/
theorem d_M_nearest_0 : decode c_M_nearest 0 = .ok (.aload_n 0, 1) := by decide +kernel
theorem d_M_nearest_1 : decode c_M_nearest 1 = .ok (.iconst 0, 1) := by decide +kernel
theorem d_M_nearest_2 : decode c_M_nearest 2 = .ok (.putfield 29, 3) := by decide +kernel
theorem d_M_nearest_5 : decode c_M_nearest 5 = .ok (.iload_n 3, 1) := by decide +kernel
theorem d_M_nearest_6 : decode c_M_nearest 6 = .ok (.iconst 1, 1) := by decide +kernel
theorem d_M_nearest_7 : decode c_M_nearest 7 = .ok (.sipush 4096, 3) := by decide +kernel
theorem d_M_nearest_10 : decode c_M_nearest 10 = .ok (.invokestatic 35, 3) := by decide +kernel
theorem d_M_nearest_13 : decode c_M_nearest 13 = .ok (.ifCond .eq 17, 3) := by decide +kernel
theorem d_M_nearest_16 : decode c_M_nearest 16 = .ok (.iload_n 1, 1) := by decide +kernel
theorem d_M_nearest_17 : decode c_M_nearest 17 = .ok (.invokestatic 39, 3) := by decide +kernel
theorem d_M_nearest_20 : decode c_M_nearest 20 = .ok (.ifCond .ne 10, 3) := by decide +kernel
theorem d_M_nearest_23 : decode c_M_nearest 23 = .ok (.iload_n 2, 1) := by decide +kernel
theorem d_M_nearest_24 : decode c_M_nearest 24 = .ok (.invokestatic 39, 3) := by decide +kernel
theorem d_M_nearest_27 : decode c_M_nearest 27 = .ok (.ifCond .eq 9, 3) := by decide +kernel
theorem d_M_nearest_30 : decode c_M_nearest 30 = .ok (.aload_n 0, 1) := by decide +kernel
theorem d_M_nearest_31 : decode c_M_nearest 31 = .ok (.iconst 1, 1) := by decide +kernel
theorem d_M_nearest_32 : decode c_M_nearest 32 = .ok (.invokevirtual 43, 3) := by decide +kernel
theorem d_M_nearest_35 : decode c_M_nearest 35 = .ok (.ireturn, 1) := by decide +kernel
theorem d_M_nearest_36 : decode c_M_nearest 36 = .ok (.aload_n 0, 1) := by decide +kernel
theorem d_M_nearest_37 : decode c_M_nearest 37 = .ok (.iconst 0, 1) := by decide +kernel
theorem d_M_nearest_38 : decode c_M_nearest 38 = .ok (.putfield 55, 3) := by decide +kernel
theorem d_M_nearest_41 : decode c_M_nearest 41 = .ok (.ldc2_w 72, 3) := by decide +kernel
theorem d_M_nearest_44 : decode c_M_nearest 44 = .ok (.lstore 4, 2) := by decide +kernel
theorem d_M_nearest_46 : decode c_M_nearest 46 = .ok (.iconst (-1), 1) := by decide +kernel
theorem d_M_nearest_47 : decode c_M_nearest 47 = .ok (.istore 6, 2) := by decide +kernel
theorem d_M_nearest_49 : decode c_M_nearest 49 = .ok (.iconst 1, 1) := by decide +kernel
theorem d_M_nearest_50 : decode c_M_nearest 50 = .ok (.istore 7, 2) := by decide +kernel
theorem d_M_nearest_52 : decode c_M_nearest 52 = .ok (.iload 7, 2) := by decide +kernel
theorem d_M_nearest_54 : decode c_M_nearest 54 = .ok (.ifCond .eq 159, 3) := by decide +kernel
theorem d_M_nearest_57 : decode c_M_nearest 57 = .ok (.aload_n 0, 1) := by decide +kernel
theorem d_M_nearest_58 : decode c_M_nearest 58 = .ok (.getfield 55, 3) := by decide +kernel
theorem d_M_nearest_61 : decode c_M_nearest 61 = .ok (.iload_n 3, 1) := by decide +kernel
theorem d_M_nearest_62 : decode c_M_nearest 62 = .ok (.if_icmp .ge 151, 3) := by decide +kernel
theorem d_M_nearest_65 : decode c_M_nearest 65 = .ok (.iconst (-1), 1) := by decide +kernel
theorem d_M_nearest_66 : decode c_M_nearest 66 = .ok (.istore 8, 2) := by decide +kernel
theorem d_M_nearest_68 : decode c_M_nearest 68 = .ok (.lconst 0, 1) := by decide +kernel
theorem d_M_nearest_69 : decode c_M_nearest 69 = .ok (.lstore 9, 2) := by decide +kernel
theorem d_M_nearest_71 : decode c_M_nearest 71 = .ok (.iconst 0, 1) := by decide +kernel
theorem d_M_nearest_72 : decode c_M_nearest 72 = .ok (.istore 11, 2) := by decide +kernel
theorem d_M_nearest_74 : decode c_M_nearest 74 = .ok (.iload 11, 2) := by decide +kernel
theorem d_M_nearest_76 : decode c_M_nearest 76 = .ok (.sipush 4096, 3) := by decide +kernel
theorem d_M_nearest_79 : decode c_M_nearest 79 = .ok (.if_icmp .ge 85, 3) := by decide +kernel
theorem d_M_nearest_82 : decode c_M_nearest 82 = .ok (.aload_n 0, 1) := by decide +kernel
theorem d_M_nearest_83 : decode c_M_nearest 83 = .ok (.getfield 7, 3) := by decide +kernel
theorem d_M_nearest_86 : decode c_M_nearest 86 = .ok (.iload 11, 2) := by decide +kernel
theorem d_M_nearest_88 : decode c_M_nearest 88 = .ok (.baload, 1) := by decide +kernel
theorem d_M_nearest_89 : decode c_M_nearest 89 = .ok (.ifCond .eq 69, 3) := by decide +kernel
theorem d_M_nearest_92 : decode c_M_nearest 92 = .ok (.aload_n 0, 1) := by decide +kernel
theorem d_M_nearest_93 : decode c_M_nearest 93 = .ok (.iload 11, 2) := by decide +kernel
theorem d_M_nearest_95 : decode c_M_nearest 95 = .ok (.iload_n 1, 1) := by decide +kernel
theorem d_M_nearest_96 : decode c_M_nearest 96 = .ok (.iload_n 2, 1) := by decide +kernel
theorem d_M_nearest_97 : decode c_M_nearest 97 = .ok (.invokevirtual 74, 3) := by decide +kernel
theorem d_M_nearest_100 : decode c_M_nearest 100 = .ok (.lstore 12, 2) := by decide +kernel
theorem d_M_nearest_102 : decode c_M_nearest 102 = .ok (.lload 12, 2) := by decide +kernel
theorem d_M_nearest_104 : decode c_M_nearest 104 = .ok (.lload 4, 2) := by decide +kernel
theorem d_M_nearest_106 : decode c_M_nearest 106 = .ok (.lcmp, 1) := by decide +kernel
theorem d_M_nearest_107 : decode c_M_nearest 107 = .ok (.ifCond .gt 18, 3) := by decide +kernel
theorem d_M_nearest_110 : decode c_M_nearest 110 = .ok (.lload 12, 2) := by decide +kernel
theorem d_M_nearest_112 : decode c_M_nearest 112 = .ok (.lload 4, 2) := by decide +kernel
theorem d_M_nearest_114 : decode c_M_nearest 114 = .ok (.lcmp, 1) := by decide +kernel
theorem d_M_nearest_115 : decode c_M_nearest 115 = .ok (.ifCond .ne 14, 3) := by decide +kernel
theorem d_M_nearest_118 : decode c_M_nearest 118 = .ok (.iload 11, 2) := by decide +kernel
theorem d_M_nearest_120 : decode c_M_nearest 120 = .ok (.iload 6, 2) := by decide +kernel
theorem d_M_nearest_122 : decode c_M_nearest 122 = .ok (.if_icmp .le 7, 3) := by decide +kernel
theorem d_M_nearest_125 : decode c_M_nearest 125 = .ok (.iconst 1, 1) := by decide +kernel
theorem d_M_nearest_126 : decode c_M_nearest 126 = .ok (.goto 4, 3) := by decide +kernel
theorem d_M_nearest_129 : decode c_M_nearest 129 = .ok (.iconst 0, 1) := by decide +kernel
theorem d_M_nearest_130 : decode c_M_nearest 130 = .ok (.istore 14, 2) := by decide +kernel
theorem d_M_nearest_132 : decode c_M_nearest 132 = .ok (.iload 14, 2) := by decide +kernel
theorem d_M_nearest_134 : decode c_M_nearest 134 = .ok (.ifCond .eq 24, 3) := by decide +kernel
theorem d_M_nearest_137 : decode c_M_nearest 137 = .ok (.iload 8, 2) := by decide +kernel
theorem d_M_nearest_139 : decode c_M_nearest 139 = .ok (.ifCond .lt 11, 3) := by decide +kernel
theorem d_M_nearest_142 : decode c_M_nearest 142 = .ok (.lload 12, 2) := by decide +kernel
theorem d_M_nearest_144 : decode c_M_nearest 144 = .ok (.lload 9, 2) := by decide +kernel
theorem d_M_nearest_146 : decode c_M_nearest 146 = .ok (.lcmp, 1) := by decide +kernel
theorem d_M_nearest_147 : decode c_M_nearest 147 = .ok (.ifCond .ge 11, 3) := by decide +kernel
theorem d_M_nearest_150 : decode c_M_nearest 150 = .ok (.iload 11, 2) := by decide +kernel
theorem d_M_nearest_152 : decode c_M_nearest 152 = .ok (.istore 8, 2) := by decide +kernel
theorem d_M_nearest_154 : decode c_M_nearest 154 = .ok (.lload 12, 2) := by decide +kernel
theorem d_M_nearest_156 : decode c_M_nearest 156 = .ok (.lstore 9, 2) := by decide +kernel
theorem d_M_nearest_158 : decode c_M_nearest 158 = .ok (.iinc 11 1, 3) := by decide +kernel
theorem d_M_nearest_161 : decode c_M_nearest 161 = .ok (.goto (-87), 3) := by decide +kernel
theorem d_M_nearest_164 : decode c_M_nearest 164 = .ok (.iload 8, 2) := by decide +kernel
theorem d_M_nearest_166 : decode c_M_nearest 166 = .ok (.ifCond .lt 7, 3) := by decide +kernel
theorem d_M_nearest_169 : decode c_M_nearest 169 = .ok (.iconst 1, 1) := by decide +kernel
theorem d_M_nearest_170 : decode c_M_nearest 170 = .ok (.goto 4, 3) := by decide +kernel
theorem d_M_nearest_173 : decode c_M_nearest 173 = .ok (.iconst 0, 1) := by decide +kernel
theorem d_M_nearest_174 : decode c_M_nearest 174 = .ok (.istore 7, 2) := by decide +kernel
theorem d_M_nearest_176 : decode c_M_nearest 176 = .ok (.iload 7, 2) := by decide +kernel
theorem d_M_nearest_178 : decode c_M_nearest 178 = .ok (.ifCond .eq 32, 3) := by decide +kernel
theorem d_M_nearest_181 : decode c_M_nearest 181 = .ok (.aload_n 0, 1) := by decide +kernel
theorem d_M_nearest_182 : decode c_M_nearest 182 = .ok (.getfield 26, 3) := by decide +kernel
theorem d_M_nearest_185 : decode c_M_nearest 185 = .ok (.aload_n 0, 1) := by decide +kernel
theorem d_M_nearest_186 : decode c_M_nearest 186 = .ok (.getfield 55, 3) := by decide +kernel
theorem d_M_nearest_189 : decode c_M_nearest 189 = .ok (.iload 8, 2) := by decide +kernel
theorem d_M_nearest_191 : decode c_M_nearest 191 = .ok (.iastore, 1) := by decide +kernel
theorem d_M_nearest_192 : decode c_M_nearest 192 = .ok (.aload_n 0, 1) := by decide +kernel
theorem d_M_nearest_193 : decode c_M_nearest 193 = .ok (.dup, 1) := by decide +kernel
theorem d_M_nearest_194 : decode c_M_nearest 194 = .ok (.getfield 55, 3) := by decide +kernel
theorem d_M_nearest_197 : decode c_M_nearest 197 = .ok (.iconst 1, 1) := by decide +kernel
theorem d_M_nearest_198 : decode c_M_nearest 198 = .ok (.iadd, 1) := by decide +kernel
theorem d_M_nearest_199 : decode c_M_nearest 199 = .ok (.putfield 55, 3) := by decide +kernel
theorem d_M_nearest_202 : decode c_M_nearest 202 = .ok (.lload 9, 2) := by decide +kernel
theorem d_M_nearest_204 : decode c_M_nearest 204 = .ok (.lstore 4, 2) := by decide +kernel
theorem d_M_nearest_206 : decode c_M_nearest 206 = .ok (.iload 8, 2) := by decide +kernel
theorem d_M_nearest_208 : decode c_M_nearest 208 = .ok (.istore 6, 2) := by decide +kernel
theorem d_M_nearest_210 : decode c_M_nearest 210 = .ok (.goto (-158), 3) := by decide +kernel
theorem d_M_nearest_213 : decode c_M_nearest 213 = .ok (.aload_n 0, 1) := by decide +kernel
theorem d_M_nearest_214 : decode c_M_nearest 214 = .ok (.getfield 55, 3) := by decide +kernel
theorem d_M_nearest_217 : decode c_M_nearest 217 = .ok (.ireturn, 1) := by decide +kernel
theorem d_M_away_0 : decode c_M_away 0 = .ok (.iload_n 2, 1) := by decide +kernel
theorem d_M_away_1 : decode c_M_away 1 = .ok (.i2l, 1) := by decide +kernel
theorem d_M_away_2 : decode c_M_away 2 = .ok (.aload_n 0, 1) := by decide +kernel
theorem d_M_away_3 : decode c_M_away 3 = .ok (.getfield 13, 3) := by decide +kernel
theorem d_M_away_6 : decode c_M_away 6 = .ok (.iload_n 1, 1) := by decide +kernel
theorem d_M_away_7 : decode c_M_away 7 = .ok (.iaload, 1) := by decide +kernel
theorem d_M_away_8 : decode c_M_away 8 = .ok (.i2l, 1) := by decide +kernel
theorem d_M_away_9 : decode c_M_away 9 = .ok (.aload_n 0, 1) := by decide +kernel
theorem d_M_away_10 : decode c_M_away 10 = .ok (.getfield 20, 3) := by decide +kernel
theorem d_M_away_13 : decode c_M_away 13 = .ok (.iload_n 1, 1) := by decide +kernel
theorem d_M_away_14 : decode c_M_away 14 = .ok (.iaload, 1) := by decide +kernel
theorem d_M_away_15 : decode c_M_away 15 = .ok (.i2l, 1) := by decide +kernel
theorem d_M_away_16 : decode c_M_away 16 = .ok (.invokestatic 68, 3) := by decide +kernel
theorem d_M_away_19 : decode c_M_away 19 = .ok (.lstore 4, 2) := by decide +kernel
theorem d_M_away_21 : decode c_M_away 21 = .ok (.iload_n 3, 1) := by decide +kernel
theorem d_M_away_22 : decode c_M_away 22 = .ok (.i2l, 1) := by decide +kernel
theorem d_M_away_23 : decode c_M_away 23 = .ok (.aload_n 0, 1) := by decide +kernel
theorem d_M_away_24 : decode c_M_away 24 = .ok (.getfield 17, 3) := by decide +kernel
theorem d_M_away_27 : decode c_M_away 27 = .ok (.iload_n 1, 1) := by decide +kernel
theorem d_M_away_28 : decode c_M_away 28 = .ok (.iaload, 1) := by decide +kernel
theorem d_M_away_29 : decode c_M_away 29 = .ok (.i2l, 1) := by decide +kernel
theorem d_M_away_30 : decode c_M_away 30 = .ok (.aload_n 0, 1) := by decide +kernel
theorem d_M_away_31 : decode c_M_away 31 = .ok (.getfield 23, 3) := by decide +kernel
theorem d_M_away_34 : decode c_M_away 34 = .ok (.iload_n 1, 1) := by decide +kernel
theorem d_M_away_35 : decode c_M_away 35 = .ok (.iaload, 1) := by decide +kernel
theorem d_M_away_36 : decode c_M_away 36 = .ok (.i2l, 1) := by decide +kernel
theorem d_M_away_37 : decode c_M_away 37 = .ok (.invokestatic 68, 3) := by decide +kernel
theorem d_M_away_40 : decode c_M_away 40 = .ok (.lstore 6, 2) := by decide +kernel
theorem d_M_away_42 : decode c_M_away 42 = .ok (.lload 4, 2) := by decide +kernel
theorem d_M_away_44 : decode c_M_away 44 = .ok (.lload 4, 2) := by decide +kernel
theorem d_M_away_46 : decode c_M_away 46 = .ok (.lmul, 1) := by decide +kernel
theorem d_M_away_47 : decode c_M_away 47 = .ok (.lload 6, 2) := by decide +kernel
theorem d_M_away_49 : decode c_M_away 49 = .ok (.lload 6, 2) := by decide +kernel
theorem d_M_away_51 : decode c_M_away 51 = .ok (.lmul, 1) := by decide +kernel
theorem d_M_away_52 : decode c_M_away 52 = .ok (.ladd, 1) := by decide +kernel
theorem d_M_away_53 : decode c_M_away 53 = .ok (.lreturn, 1) := by decide +kernel
theorem d_M_gap_0 : decode c_M_gap 0 = .ok (.lload_n 0, 1) := by decide +kernel
theorem d_M_gap_1 : decode c_M_gap 1 = .ok (.lload_n 2, 1) := by decide +kernel
theorem d_M_gap_2 : decode c_M_gap 2 = .ok (.lcmp, 1) := by decide +kernel
theorem d_M_gap_3 : decode c_M_gap 3 = .ok (.ifCond .ge 9, 3) := by decide +kernel
theorem d_M_gap_6 : decode c_M_gap 6 = .ok (.lload_n 2, 1) := by decide +kernel
theorem d_M_gap_7 : decode c_M_gap 7 = .ok (.lload_n 0, 1) := by decide +kernel
theorem d_M_gap_8 : decode c_M_gap 8 = .ok (.lsub, 1) := by decide +kernel
theorem d_M_gap_9 : decode c_M_gap 9 = .ok (.goto 18, 3) := by decide +kernel
theorem d_M_gap_12 : decode c_M_gap 12 = .ok (.lload_n 0, 1) := by decide +kernel
theorem d_M_gap_13 : decode c_M_gap 13 = .ok (.lload 4, 2) := by decide +kernel
theorem d_M_gap_15 : decode c_M_gap 15 = .ok (.lcmp, 1) := by decide +kernel
theorem d_M_gap_16 : decode c_M_gap 16 = .ok (.ifCond .le 10, 3) := by decide +kernel
theorem d_M_gap_19 : decode c_M_gap 19 = .ok (.lload_n 0, 1) := by decide +kernel
theorem d_M_gap_20 : decode c_M_gap 20 = .ok (.lload 4, 2) := by decide +kernel
theorem d_M_gap_22 : decode c_M_gap 22 = .ok (.lsub, 1) := by decide +kernel
theorem d_M_gap_23 : decode c_M_gap 23 = .ok (.goto 4, 3) := by decide +kernel
theorem d_M_gap_26 : decode c_M_gap 26 = .ok (.lconst 0, 1) := by decide +kernel
theorem d_M_gap_27 : decode c_M_gap 27 = .ok (.lreturn, 1) := by decide +kernel
theorem d_M_pairs_0 : decode c_M_pairs 0 = .ok (.aload_n 0, 1) := by decide +kernel
theorem d_M_pairs_1 : decode c_M_pairs 1 = .ok (.iconst 0, 1) := by decide +kernel
theorem d_M_pairs_2 : decode c_M_pairs 2 = .ok (.putfield 29, 3) := by decide +kernel
theorem d_M_pairs_5 : decode c_M_pairs 5 = .ok (.aload_n 0, 1) := by decide +kernel
theorem d_M_pairs_6 : decode c_M_pairs 6 = .ok (.iconst 0, 1) := by decide +kernel
theorem d_M_pairs_7 : decode c_M_pairs 7 = .ok (.putfield 55, 3) := by decide +kernel
theorem d_M_pairs_10 : decode c_M_pairs 10 = .ok (.iconst 0, 1) := by decide +kernel
theorem d_M_pairs_11 : decode c_M_pairs 11 = .ok (.istore_n 1, 1) := by decide +kernel
theorem d_M_pairs_12 : decode c_M_pairs 12 = .ok (.iconst 0, 1) := by decide +kernel
theorem d_M_pairs_13 : decode c_M_pairs 13 = .ok (.istore_n 2, 1) := by decide +kernel
theorem d_M_pairs_14 : decode c_M_pairs 14 = .ok (.iload_n 2, 1) := by decide +kernel
theorem d_M_pairs_15 : decode c_M_pairs 15 = .ok (.sipush 4096, 3) := by decide +kernel
theorem d_M_pairs_18 : decode c_M_pairs 18 = .ok (.if_icmp .ge 118, 3) := by decide +kernel
theorem d_M_pairs_21 : decode c_M_pairs 21 = .ok (.iload_n 2, 1) := by decide +kernel
theorem d_M_pairs_22 : decode c_M_pairs 22 = .ok (.iconst 1, 1) := by decide +kernel
theorem d_M_pairs_23 : decode c_M_pairs 23 = .ok (.iadd, 1) := by decide +kernel
theorem d_M_pairs_24 : decode c_M_pairs 24 = .ok (.istore_n 3, 1) := by decide +kernel
theorem d_M_pairs_25 : decode c_M_pairs 25 = .ok (.aload_n 0, 1) := by decide +kernel
theorem d_M_pairs_26 : decode c_M_pairs 26 = .ok (.getfield 7, 3) := by decide +kernel
theorem d_M_pairs_29 : decode c_M_pairs 29 = .ok (.iload_n 2, 1) := by decide +kernel
theorem d_M_pairs_30 : decode c_M_pairs 30 = .ok (.baload, 1) := by decide +kernel
theorem d_M_pairs_31 : decode c_M_pairs 31 = .ok (.ifCond .eq 99, 3) := by decide +kernel
theorem d_M_pairs_34 : decode c_M_pairs 34 = .ok (.iload_n 3, 1) := by decide +kernel
theorem d_M_pairs_35 : decode c_M_pairs 35 = .ok (.sipush 4096, 3) := by decide +kernel
theorem d_M_pairs_38 : decode c_M_pairs 38 = .ok (.if_icmp .ge 92, 3) := by decide +kernel
theorem d_M_pairs_41 : decode c_M_pairs 41 = .ok (.aload_n 0, 1) := by decide +kernel
theorem d_M_pairs_42 : decode c_M_pairs 42 = .ok (.getfield 7, 3) := by decide +kernel
theorem d_M_pairs_45 : decode c_M_pairs 45 = .ok (.iload_n 3, 1) := by decide +kernel
theorem d_M_pairs_46 : decode c_M_pairs 46 = .ok (.baload, 1) := by decide +kernel
theorem d_M_pairs_47 : decode c_M_pairs 47 = .ok (.ifCond .eq 77, 3) := by decide +kernel
theorem d_M_pairs_50 : decode c_M_pairs 50 = .ok (.aload_n 0, 1) := by decide +kernel
theorem d_M_pairs_51 : decode c_M_pairs 51 = .ok (.iload_n 3, 1) := by decide +kernel
theorem d_M_pairs_52 : decode c_M_pairs 52 = .ok (.aload_n 0, 1) := by decide +kernel
theorem d_M_pairs_53 : decode c_M_pairs 53 = .ok (.getfield 13, 3) := by decide +kernel
theorem d_M_pairs_56 : decode c_M_pairs 56 = .ok (.iload_n 2, 1) := by decide +kernel
theorem d_M_pairs_57 : decode c_M_pairs 57 = .ok (.iaload, 1) := by decide +kernel
theorem d_M_pairs_58 : decode c_M_pairs 58 = .ok (.aload_n 0, 1) := by decide +kernel
theorem d_M_pairs_59 : decode c_M_pairs 59 = .ok (.getfield 17, 3) := by decide +kernel
theorem d_M_pairs_62 : decode c_M_pairs 62 = .ok (.iload_n 2, 1) := by decide +kernel
theorem d_M_pairs_63 : decode c_M_pairs 63 = .ok (.iaload, 1) := by decide +kernel
theorem d_M_pairs_64 : decode c_M_pairs 64 = .ok (.aload_n 0, 1) := by decide +kernel
theorem d_M_pairs_65 : decode c_M_pairs 65 = .ok (.getfield 20, 3) := by decide +kernel
theorem d_M_pairs_68 : decode c_M_pairs 68 = .ok (.iload_n 2, 1) := by decide +kernel
theorem d_M_pairs_69 : decode c_M_pairs 69 = .ok (.iaload, 1) := by decide +kernel
theorem d_M_pairs_70 : decode c_M_pairs 70 = .ok (.aload_n 0, 1) := by decide +kernel
theorem d_M_pairs_71 : decode c_M_pairs 71 = .ok (.getfield 23, 3) := by decide +kernel
theorem d_M_pairs_74 : decode c_M_pairs 74 = .ok (.iload_n 2, 1) := by decide +kernel
theorem d_M_pairs_75 : decode c_M_pairs 75 = .ok (.iaload, 1) := by decide +kernel
theorem d_M_pairs_76 : decode c_M_pairs 76 = .ok (.invokevirtual 58, 3) := by decide +kernel
theorem d_M_pairs_79 : decode c_M_pairs 79 = .ok (.ifCond .eq 45, 3) := by decide +kernel
theorem d_M_pairs_82 : decode c_M_pairs 82 = .ok (.iload_n 1, 1) := by decide +kernel
theorem d_M_pairs_83 : decode c_M_pairs 83 = .ok (.sipush 2048, 3) := by decide +kernel
theorem d_M_pairs_86 : decode c_M_pairs 86 = .ok (.if_icmp .ge 35, 3) := by decide +kernel
theorem d_M_pairs_89 : decode c_M_pairs 89 = .ok (.aload_n 0, 1) := by decide +kernel
theorem d_M_pairs_90 : decode c_M_pairs 90 = .ok (.getfield 26, 3) := by decide +kernel
theorem d_M_pairs_93 : decode c_M_pairs 93 = .ok (.aload_n 0, 1) := by decide +kernel
theorem d_M_pairs_94 : decode c_M_pairs 94 = .ok (.getfield 55, 3) := by decide +kernel
theorem d_M_pairs_97 : decode c_M_pairs 97 = .ok (.iload_n 2, 1) := by decide +kernel
theorem d_M_pairs_98 : decode c_M_pairs 98 = .ok (.iastore, 1) := by decide +kernel
theorem d_M_pairs_99 : decode c_M_pairs 99 = .ok (.aload_n 0, 1) := by decide +kernel
theorem d_M_pairs_100 : decode c_M_pairs 100 = .ok (.getfield 26, 3) := by decide +kernel
theorem d_M_pairs_103 : decode c_M_pairs 103 = .ok (.aload_n 0, 1) := by decide +kernel
theorem d_M_pairs_104 : decode c_M_pairs 104 = .ok (.getfield 55, 3) := by decide +kernel
theorem d_M_pairs_107 : decode c_M_pairs 107 = .ok (.iconst 1, 1) := by decide +kernel
theorem d_M_pairs_108 : decode c_M_pairs 108 = .ok (.iadd, 1) := by decide +kernel
theorem d_M_pairs_109 : decode c_M_pairs 109 = .ok (.iload_n 3, 1) := by decide +kernel
theorem d_M_pairs_110 : decode c_M_pairs 110 = .ok (.iastore, 1) := by decide +kernel
theorem d_M_pairs_111 : decode c_M_pairs 111 = .ok (.aload_n 0, 1) := by decide +kernel
theorem d_M_pairs_112 : decode c_M_pairs 112 = .ok (.dup, 1) := by decide +kernel
theorem d_M_pairs_113 : decode c_M_pairs 113 = .ok (.getfield 55, 3) := by decide +kernel
theorem d_M_pairs_116 : decode c_M_pairs 116 = .ok (.iconst 2, 1) := by decide +kernel
theorem d_M_pairs_117 : decode c_M_pairs 117 = .ok (.iadd, 1) := by decide +kernel
theorem d_M_pairs_118 : decode c_M_pairs 118 = .ok (.putfield 55, 3) := by decide +kernel
theorem d_M_pairs_121 : decode c_M_pairs 121 = .ok (.iinc 1 1, 3) := by decide +kernel
theorem d_M_pairs_124 : decode c_M_pairs 124 = .ok (.iinc 3 1, 3) := by decide +kernel
theorem d_M_pairs_127 : decode c_M_pairs 127 = .ok (.goto (-102), 3) := by decide +kernel
theorem d_M_pairs_130 : decode c_M_pairs 130 = .ok (.iinc 2 1, 3) := by decide +kernel
theorem d_M_pairs_133 : decode c_M_pairs 133 = .ok (.goto (-119), 3) := by decide +kernel
theorem d_M_pairs_136 : decode c_M_pairs 136 = .ok (.iload_n 1, 1) := by decide +kernel
theorem d_M_pairs_137 : decode c_M_pairs 137 = .ok (.ireturn, 1) := by decide +kernel
theorem d_M_distance_0 : decode c_M_distance 0 = .ok (.aload_n 0, 1) := by decide +kernel
theorem d_M_distance_1 : decode c_M_distance 1 = .ok (.iconst 0, 1) := by decide +kernel
theorem d_M_distance_2 : decode c_M_distance 2 = .ok (.putfield 29, 3) := by decide +kernel
theorem d_M_distance_5 : decode c_M_distance 5 = .ok (.aload_n 0, 1) := by decide +kernel
theorem d_M_distance_6 : decode c_M_distance 6 = .ok (.iload_n 1, 1) := by decide +kernel
theorem d_M_distance_7 : decode c_M_distance 7 = .ok (.invokevirtual 78, 3) := by decide +kernel
theorem d_M_distance_10 : decode c_M_distance 10 = .ok (.ifCond .ne 10, 3) := by decide +kernel
theorem d_M_distance_13 : decode c_M_distance 13 = .ok (.aload_n 0, 1) := by decide +kernel
theorem d_M_distance_14 : decode c_M_distance 14 = .ok (.iconst 1, 1) := by decide +kernel
theorem d_M_distance_15 : decode c_M_distance 15 = .ok (.invokevirtual 43, 3) := by decide +kernel
theorem d_M_distance_18 : decode c_M_distance 18 = .ok (.i2l, 1) := by decide +kernel
theorem d_M_distance_19 : decode c_M_distance 19 = .ok (.lreturn, 1) := by decide +kernel
theorem d_M_distance_20 : decode c_M_distance 20 = .ok (.iload_n 2, 1) := by decide +kernel
theorem d_M_distance_21 : decode c_M_distance 21 = .ok (.invokestatic 39, 3) := by decide +kernel
theorem d_M_distance_24 : decode c_M_distance 24 = .ok (.ifCond .ne 10, 3) := by decide +kernel
theorem d_M_distance_27 : decode c_M_distance 27 = .ok (.iload_n 3, 1) := by decide +kernel
theorem d_M_distance_28 : decode c_M_distance 28 = .ok (.invokestatic 39, 3) := by decide +kernel
theorem d_M_distance_31 : decode c_M_distance 31 = .ok (.ifCond .eq 12, 3) := by decide +kernel
theorem d_M_distance_34 : decode c_M_distance 34 = .ok (.aload_n 0, 1) := by decide +kernel
theorem d_M_distance_35 : decode c_M_distance 35 = .ok (.iconst 2, 1) := by decide +kernel
theorem d_M_distance_36 : decode c_M_distance 36 = .ok (.invokevirtual 43, 3) := by decide +kernel
theorem d_M_distance_39 : decode c_M_distance 39 = .ok (.i2l, 1) := by decide +kernel
theorem d_M_distance_40 : decode c_M_distance 40 = .ok (.goto 10, 3) := by decide +kernel
theorem d_M_distance_43 : decode c_M_distance 43 = .ok (.aload_n 0, 1) := by decide +kernel
theorem d_M_distance_44 : decode c_M_distance 44 = .ok (.iload_n 1, 1) := by decide +kernel
theorem d_M_distance_45 : decode c_M_distance 45 = .ok (.iload_n 2, 1) := by decide +kernel
theorem d_M_distance_46 : decode c_M_distance 46 = .ok (.iload_n 3, 1) := by decide +kernel
theorem d_M_distance_47 : decode c_M_distance 47 = .ok (.invokevirtual 74, 3) := by decide +kernel
theorem d_M_distance_50 : decode c_M_distance 50 = .ok (.lreturn, 1) := by decide +kernel
theorem d_M_isThere_0 : decode c_M_isThere 0 = .ok (.iload_n 1, 1) := by decide +kernel
theorem d_M_isThere_1 : decode c_M_isThere 1 = .ok (.iconst 0, 1) := by decide +kernel
theorem d_M_isThere_2 : decode c_M_isThere 2 = .ok (.sipush 4095, 3) := by decide +kernel
theorem d_M_isThere_5 : decode c_M_isThere 5 = .ok (.invokestatic 35, 3) := by decide +kernel
theorem d_M_isThere_8 : decode c_M_isThere 8 = .ok (.ifCond .eq 16, 3) := by decide +kernel
theorem d_M_isThere_11 : decode c_M_isThere 11 = .ok (.aload_n 0, 1) := by decide +kernel
theorem d_M_isThere_12 : decode c_M_isThere 12 = .ok (.getfield 7, 3) := by decide +kernel
theorem d_M_isThere_15 : decode c_M_isThere 15 = .ok (.iload_n 1, 1) := by decide +kernel
theorem d_M_isThere_16 : decode c_M_isThere 16 = .ok (.baload, 1) := by decide +kernel
theorem d_M_isThere_17 : decode c_M_isThere 17 = .ok (.ifCond .eq 7, 3) := by decide +kernel
theorem d_M_isThere_20 : decode c_M_isThere 20 = .ok (.iconst 1, 1) := by decide +kernel
theorem d_M_isThere_21 : decode c_M_isThere 21 = .ok (.goto 4, 3) := by decide +kernel
theorem d_M_isThere_24 : decode c_M_isThere 24 = .ok (.iconst 0, 1) := by decide +kernel
theorem d_M_isThere_25 : decode c_M_isThere 25 = .ok (.ireturn, 1) := by decide +kernel
end
section
/-! decode rows, by program -/
theorem d_M_bounds_0 : decode c_M_bounds 0 = .ok (.aload_n 0, 1) := by decide +kernel
theorem d_M_bounds_1 : decode c_M_bounds 1 = .ok (.iconst 0, 1) := by decide +kernel
theorem d_M_bounds_2 : decode c_M_bounds 2 = .ok (.putfield 29, 3) := by decide +kernel
theorem d_M_bounds_5 : decode c_M_bounds 5 = .ok (.iload_n 1, 1) := by decide +kernel
theorem d_M_bounds_6 : decode c_M_bounds 6 = .ok (.iconst 0, 1) := by decide +kernel
theorem d_M_bounds_7 : decode c_M_bounds 7 = .ok (.iconst 3, 1) := by decide +kernel
theorem d_M_bounds_8 : decode c_M_bounds 8 = .ok (.invokestatic 35, 3) := by decide +kernel
theorem d_M_bounds_11 : decode c_M_bounds 11 = .ok (.ifCond .ne 9, 3) := by decide +kernel
theorem d_M_bounds_14 : decode c_M_bounds 14 = .ok (.aload_n 0, 1) := by decide +kernel
theorem d_M_bounds_15 : decode c_M_bounds 15 = .ok (.iconst 1, 1) := by decide +kernel
theorem d_M_bounds_16 : decode c_M_bounds 16 = .ok (.invokevirtual 43, 3) := by decide +kernel
theorem d_M_bounds_19 : decode c_M_bounds 19 = .ok (.ireturn, 1) := by decide +kernel
theorem d_M_bounds_20 : decode c_M_bounds 20 = .ok (.iconst (-1), 1) := by decide +kernel
theorem d_M_bounds_21 : decode c_M_bounds 21 = .ok (.istore_n 2, 1) := by decide +kernel
theorem d_M_bounds_22 : decode c_M_bounds 22 = .ok (.iconst 0, 1) := by decide +kernel
theorem d_M_bounds_23 : decode c_M_bounds 23 = .ok (.istore_n 3, 1) := by decide +kernel
theorem d_M_bounds_24 : decode c_M_bounds 24 = .ok (.iload_n 3, 1) := by decide +kernel
theorem d_M_bounds_25 : decode c_M_bounds 25 = .ok (.sipush 4096, 3) := by decide +kernel
theorem d_M_bounds_28 : decode c_M_bounds 28 = .ok (.if_icmp .ge 62, 3) := by decide +kernel
theorem d_M_bounds_31 : decode c_M_bounds 31 = .ok (.aload_n 0, 1) := by decide +kernel
theorem d_M_bounds_32 : decode c_M_bounds 32 = .ok (.getfield 7, 3) := by decide +kernel
theorem d_M_bounds_35 : decode c_M_bounds 35 = .ok (.iload_n 3, 1) := by decide +kernel
theorem d_M_bounds_36 : decode c_M_bounds 36 = .ok (.baload, 1) := by decide +kernel
theorem d_M_bounds_37 : decode c_M_bounds 37 = .ok (.ifCond .eq 47, 3) := by decide +kernel
theorem d_M_bounds_40 : decode c_M_bounds 40 = .ok (.iload_n 2, 1) := by decide +kernel
theorem d_M_bounds_41 : decode c_M_bounds 41 = .ok (.ifCond .lt 41, 3) := by decide +kernel
theorem d_M_bounds_44 : decode c_M_bounds 44 = .ok (.iload_n 1, 1) := by decide +kernel
theorem d_M_bounds_45 : decode c_M_bounds 45 = .ok (.iconst 2, 1) := by decide +kernel
theorem d_M_bounds_46 : decode c_M_bounds 46 = .ok (.if_icmp .ge 21, 3) := by decide +kernel
theorem d_M_bounds_49 : decode c_M_bounds 49 = .ok (.aload_n 0, 1) := by decide +kernel
theorem d_M_bounds_50 : decode c_M_bounds 50 = .ok (.iload_n 3, 1) := by decide +kernel
theorem d_M_bounds_51 : decode c_M_bounds 51 = .ok (.iload_n 1, 1) := by decide +kernel
theorem d_M_bounds_52 : decode c_M_bounds 52 = .ok (.invokevirtual 81, 3) := by decide +kernel
theorem d_M_bounds_55 : decode c_M_bounds 55 = .ok (.aload_n 0, 1) := by decide +kernel
theorem d_M_bounds_56 : decode c_M_bounds 56 = .ok (.iload_n 2, 1) := by decide +kernel
theorem d_M_bounds_57 : decode c_M_bounds 57 = .ok (.iload_n 1, 1) := by decide +kernel
theorem d_M_bounds_58 : decode c_M_bounds 58 = .ok (.invokevirtual 81, 3) := by decide +kernel
theorem d_M_bounds_61 : decode c_M_bounds 61 = .ok (.if_icmp .ge 23, 3) := by decide +kernel
theorem d_M_bounds_64 : decode c_M_bounds 64 = .ok (.goto 18, 3) := by decide +kernel
theorem d_M_bounds_67 : decode c_M_bounds 67 = .ok (.aload_n 0, 1) := by decide +kernel
theorem d_M_bounds_68 : decode c_M_bounds 68 = .ok (.iload_n 3, 1) := by decide +kernel
theorem d_M_bounds_69 : decode c_M_bounds 69 = .ok (.iload_n 1, 1) := by decide +kernel
theorem d_M_bounds_70 : decode c_M_bounds 70 = .ok (.invokevirtual 81, 3) := by decide +kernel
theorem d_M_bounds_73 : decode c_M_bounds 73 = .ok (.aload_n 0, 1) := by decide +kernel
theorem d_M_bounds_74 : decode c_M_bounds 74 = .ok (.iload_n 2, 1) := by decide +kernel
theorem d_M_bounds_75 : decode c_M_bounds 75 = .ok (.iload_n 1, 1) := by decide +kernel
theorem d_M_bounds_76 : decode c_M_bounds 76 = .ok (.invokevirtual 81, 3) := by decide +kernel
theorem d_M_bounds_79 : decode c_M_bounds 79 = .ok (.if_icmp .le 5, 3) := by decide +kernel
theorem d_M_bounds_82 : decode c_M_bounds 82 = .ok (.iload_n 3, 1) := by decide +kernel
theorem d_M_bounds_83 : decode c_M_bounds 83 = .ok (.istore_n 2, 1) := by decide +kernel
theorem d_M_bounds_84 : decode c_M_bounds 84 = .ok (.iinc 3 1, 3) := by decide +kernel
theorem d_M_bounds_87 : decode c_M_bounds 87 = .ok (.goto (-63), 3) := by decide +kernel
theorem d_M_bounds_90 : decode c_M_bounds 90 = .ok (.iload_n 2, 1) := by decide +kernel
theorem d_M_bounds_91 : decode c_M_bounds 91 = .ok (.ifCond .ge 11, 3) := by decide +kernel
theorem d_M_bounds_94 : decode c_M_bounds 94 = .ok (.aload_n 0, 1) := by decide +kernel
theorem d_M_bounds_95 : decode c_M_bounds 95 = .ok (.iconst 2, 1) := by decide +kernel
theorem d_M_bounds_96 : decode c_M_bounds 96 = .ok (.invokevirtual 43, 3) := by decide +kernel
theorem d_M_bounds_99 : decode c_M_bounds 99 = .ok (.goto 9, 3) := by decide +kernel
theorem d_M_bounds_102 : decode c_M_bounds 102 = .ok (.aload_n 0, 1) := by decide +kernel
theorem d_M_bounds_103 : decode c_M_bounds 103 = .ok (.iload_n 2, 1) := by decide +kernel
theorem d_M_bounds_104 : decode c_M_bounds 104 = .ok (.iload_n 1, 1) := by decide +kernel
theorem d_M_bounds_105 : decode c_M_bounds 105 = .ok (.invokevirtual 81, 3) := by decide +kernel
theorem d_M_bounds_108 : decode c_M_bounds 108 = .ok (.ireturn, 1) := by decide +kernel
theorem d_M_bound_0 : decode c_M_bound 0 = .ok (.iload_n 2, 1) := by decide +kernel
theorem d_M_bound_1 : decode c_M_bound 1 = .ok (.ifCond .ne 12, 3) := by decide +kernel
theorem d_M_bound_4 : decode c_M_bound 4 = .ok (.aload_n 0, 1) := by decide +kernel
theorem d_M_bound_5 : decode c_M_bound 5 = .ok (.getfield 13, 3) := by decide +kernel
theorem d_M_bound_8 : decode c_M_bound 8 = .ok (.iload_n 1, 1) := by decide +kernel
theorem d_M_bound_9 : decode c_M_bound 9 = .ok (.iaload, 1) := by decide +kernel
theorem d_M_bound_10 : decode c_M_bound 10 = .ok (.goto 37, 3) := by decide +kernel
theorem d_M_bound_13 : decode c_M_bound 13 = .ok (.iload_n 2, 1) := by decide +kernel
theorem d_M_bound_14 : decode c_M_bound 14 = .ok (.iconst 1, 1) := by decide +kernel
theorem d_M_bound_15 : decode c_M_bound 15 = .ok (.if_icmp .ne 12, 3) := by decide +kernel
theorem d_M_bound_18 : decode c_M_bound 18 = .ok (.aload_n 0, 1) := by decide +kernel
theorem d_M_bound_19 : decode c_M_bound 19 = .ok (.getfield 17, 3) := by decide +kernel
theorem d_M_bound_22 : decode c_M_bound 22 = .ok (.iload_n 1, 1) := by decide +kernel
theorem d_M_bound_23 : decode c_M_bound 23 = .ok (.iaload, 1) := by decide +kernel
theorem d_M_bound_24 : decode c_M_bound 24 = .ok (.goto 23, 3) := by decide +kernel
theorem d_M_bound_27 : decode c_M_bound 27 = .ok (.iload_n 2, 1) := by decide +kernel
theorem d_M_bound_28 : decode c_M_bound 28 = .ok (.iconst 2, 1) := by decide +kernel
theorem d_M_bound_29 : decode c_M_bound 29 = .ok (.if_icmp .ne 12, 3) := by decide +kernel
theorem d_M_bound_32 : decode c_M_bound 32 = .ok (.aload_n 0, 1) := by decide +kernel
theorem d_M_bound_33 : decode c_M_bound 33 = .ok (.getfield 20, 3) := by decide +kernel
theorem d_M_bound_36 : decode c_M_bound 36 = .ok (.iload_n 1, 1) := by decide +kernel
theorem d_M_bound_37 : decode c_M_bound 37 = .ok (.iaload, 1) := by decide +kernel
theorem d_M_bound_38 : decode c_M_bound 38 = .ok (.goto 9, 3) := by decide +kernel
theorem d_M_bound_41 : decode c_M_bound 41 = .ok (.aload_n 0, 1) := by decide +kernel
theorem d_M_bound_42 : decode c_M_bound 42 = .ok (.getfield 23, 3) := by decide +kernel
theorem d_M_bound_45 : decode c_M_bound 45 = .ok (.iload_n 1, 1) := by decide +kernel
theorem d_M_bound_46 : decode c_M_bound 46 = .ok (.iaload, 1) := by decide +kernel
theorem d_M_bound_47 : decode c_M_bound 47 = .ok (.ireturn, 1) := by decide +kernel
theorem d_M_result_0 : decode c_M_result 0 = .ok (.aload_n 0, 1) := by decide +kernel
theorem d_M_result_1 : decode c_M_result 1 = .ok (.iconst 0, 1) := by decide +kernel
theorem d_M_result_2 : decode c_M_result 2 = .ok (.putfield 29, 3) := by decide +kernel
theorem d_M_result_5 : decode c_M_result 5 = .ok (.iload_n 1, 1) := by decide +kernel
theorem d_M_result_6 : decode c_M_result 6 = .ok (.iconst 0, 1) := by decide +kernel
theorem d_M_result_7 : decode c_M_result 7 = .ok (.aload_n 0, 1) := by decide +kernel
theorem d_M_result_8 : decode c_M_result 8 = .ok (.getfield 55, 3) := by decide +kernel
theorem d_M_result_11 : decode c_M_result 11 = .ok (.iconst 1, 1) := by decide +kernel
theorem d_M_result_12 : decode c_M_result 12 = .ok (.isub, 1) := by decide +kernel
theorem d_M_result_13 : decode c_M_result 13 = .ok (.invokestatic 35, 3) := by decide +kernel
theorem d_M_result_16 : decode c_M_result 16 = .ok (.ifCond .eq 12, 3) := by decide +kernel
theorem d_M_result_19 : decode c_M_result 19 = .ok (.aload_n 0, 1) := by decide +kernel
theorem d_M_result_20 : decode c_M_result 20 = .ok (.getfield 26, 3) := by decide +kernel
theorem d_M_result_23 : decode c_M_result 23 = .ok (.iload_n 1, 1) := by decide +kernel
theorem d_M_result_24 : decode c_M_result 24 = .ok (.iaload, 1) := by decide +kernel
theorem d_M_result_25 : decode c_M_result 25 = .ok (.goto 8, 3) := by decide +kernel
theorem d_M_result_28 : decode c_M_result 28 = .ok (.aload_n 0, 1) := by decide +kernel
theorem d_M_result_29 : decode c_M_result 29 = .ok (.iconst 1, 1) := by decide +kernel
theorem d_M_result_30 : decode c_M_result 30 = .ok (.invokevirtual 43, 3) := by decide +kernel
theorem d_M_result_33 : decode c_M_result 33 = .ok (.ireturn, 1) := by decide +kernel
theorem d_M_box_0 : decode c_M_box 0 = .ok (.aload_n 0, 1) := by decide +kernel
theorem d_M_box_1 : decode c_M_box 1 = .ok (.iconst 0, 1) := by decide +kernel
theorem d_M_box_2 : decode c_M_box 2 = .ok (.putfield 29, 3) := by decide +kernel
theorem d_M_box_5 : decode c_M_box 5 = .ok (.aload_n 0, 1) := by decide +kernel
theorem d_M_box_6 : decode c_M_box 6 = .ok (.iload_n 1, 1) := by decide +kernel
theorem d_M_box_7 : decode c_M_box 7 = .ok (.invokevirtual 78, 3) := by decide +kernel
theorem d_M_box_10 : decode c_M_box 10 = .ok (.ifCond .eq 21, 3) := by decide +kernel
theorem d_M_box_13 : decode c_M_box 13 = .ok (.iload_n 2, 1) := by decide +kernel
theorem d_M_box_14 : decode c_M_box 14 = .ok (.iconst 0, 1) := by decide +kernel
theorem d_M_box_15 : decode c_M_box 15 = .ok (.iconst 3, 1) := by decide +kernel
theorem d_M_box_16 : decode c_M_box 16 = .ok (.invokestatic 35, 3) := by decide +kernel
theorem d_M_box_19 : decode c_M_box 19 = .ok (.ifCond .eq 12, 3) := by decide +kernel
theorem d_M_box_22 : decode c_M_box 22 = .ok (.aload_n 0, 1) := by decide +kernel
theorem d_M_box_23 : decode c_M_box 23 = .ok (.iload_n 1, 1) := by decide +kernel
theorem d_M_box_24 : decode c_M_box 24 = .ok (.iload_n 2, 1) := by decide +kernel
theorem d_M_box_25 : decode c_M_box 25 = .ok (.invokevirtual 81, 3) := by decide +kernel
theorem d_M_box_28 : decode c_M_box 28 = .ok (.goto 8, 3) := by decide +kernel
theorem d_M_box_31 : decode c_M_box 31 = .ok (.aload_n 0, 1) := by decide +kernel
theorem d_M_box_32 : decode c_M_box 32 = .ok (.iconst 1, 1) := by decide +kernel
theorem d_M_box_33 : decode c_M_box 33 = .ok (.invokevirtual 43, 3) := by decide +kernel
theorem d_M_box_36 : decode c_M_box 36 = .ok (.ireturn, 1) := by decide +kernel
theorem d_M_count_0 : decode c_M_count 0 = .ok (.aload_n 0, 1) := by decide +kernel
theorem d_M_count_1 : decode c_M_count 1 = .ok (.iconst 0, 1) := by decide +kernel
theorem d_M_count_2 : decode c_M_count 2 = .ok (.putfield 29, 3) := by decide +kernel
theorem d_M_count_5 : decode c_M_count 5 = .ok (.iload_n 1, 1) := by decide +kernel
theorem d_M_count_6 : decode c_M_count 6 = .ok (.ifCond .ne 10, 3) := by decide +kernel
theorem d_M_count_9 : decode c_M_count 9 = .ok (.aload_n 0, 1) := by decide +kernel
theorem d_M_count_10 : decode c_M_count 10 = .ok (.invokevirtual 51, 3) := by decide +kernel
theorem d_M_count_13 : decode c_M_count 13 = .ok (.goto 16, 3) := by decide +kernel
theorem d_M_count_16 : decode c_M_count 16 = .ok (.iload_n 1, 1) := by decide +kernel
theorem d_M_count_17 : decode c_M_count 17 = .ok (.iconst 1, 1) := by decide +kernel
theorem d_M_count_18 : decode c_M_count 18 = .ok (.if_icmp .ne 10, 3) := by decide +kernel
theorem d_M_count_21 : decode c_M_count 21 = .ok (.aload_n 0, 1) := by decide +kernel
theorem d_M_count_22 : decode c_M_count 22 = .ok (.getfield 55, 3) := by decide +kernel
theorem d_M_count_25 : decode c_M_count 25 = .ok (.goto 4, 3) := by decide +kernel
theorem d_M_count_28 : decode c_M_count 28 = .ok (.iconst (-1), 1) := by decide +kernel
theorem d_M_count_29 : decode c_M_count 29 = .ok (.ireturn, 1) := by decide +kernel
theorem d_L_put_0 : decode c_L_put 0 = .ok (.aload 6, 2) := by decide +kernel
theorem d_L_put_2 : decode c_L_put 2 = .ok (.iconst 0, 1) := by decide +kernel
theorem d_L_put_3 : decode c_L_put 3 = .ok (.aload_n 0, 1) := by decide +kernel
theorem d_L_put_4 : decode c_L_put 4 = .ok (.iload_n 1, 1) := by decide +kernel
theorem d_L_put_5 : decode c_L_put 5 = .ok (.iload_n 2, 1) := by decide +kernel
theorem d_L_put_6 : decode c_L_put 6 = .ok (.iload_n 3, 1) := by decide +kernel
theorem d_L_put_7 : decode c_L_put 7 = .ok (.iload 4, 2) := by decide +kernel
theorem d_L_put_9 : decode c_L_put 9 = .ok (.iload 5, 2) := by decide +kernel
theorem d_L_put_11 : decode c_L_put 11 = .ok (.invokevirtual 7, 3) := by decide +kernel
theorem d_L_put_14 : decode c_L_put 14 = .ok (.ifCond .eq 7, 3) := by decide +kernel
theorem d_L_put_17 : decode c_L_put 17 = .ok (.lconst 1, 1) := by decide +kernel
theorem d_L_put_18 : decode c_L_put 18 = .ok (.goto 4, 3) := by decide +kernel
theorem d_L_put_21 : decode c_L_put 21 = .ok (.lconst 0, 1) := by decide +kernel
theorem d_L_put_22 : decode c_L_put 22 = .ok (.lastore, 1) := by decide +kernel
theorem d_L_put_23 : decode c_L_put 23 = .ok (.goto 11, 3) := by decide +kernel
theorem d_L_put_26 : decode c_L_put 26 = .ok (.astore 7, 2) := by decide +kernel
theorem d_L_put_28 : decode c_L_put 28 = .ok (.iconst 1, 1) := by decide +kernel
theorem d_L_put_29 : decode c_L_put 29 = .ok (.ireturn, 1) := by decide +kernel
theorem d_L_put_30 : decode c_L_put 30 = .ok (.astore 7, 2) := by decide +kernel
theorem d_L_put_32 : decode c_L_put 32 = .ok (.iconst 2, 1) := by decide +kernel
theorem d_L_put_33 : decode c_L_put 33 = .ok (.ireturn, 1) := by decide +kernel
theorem d_L_put_34 : decode c_L_put 34 = .ok (.iconst 0, 1) := by decide +kernel
theorem d_L_put_35 : decode c_L_put 35 = .ok (.ireturn, 1) := by decide +kernel
theorem d_L_take_0 : decode c_L_take 0 = .ok (.aload_n 2, 1) := by decide +kernel
theorem d_L_take_1 : decode c_L_take 1 = .ok (.iconst 0, 1) := by decide +kernel
theorem d_L_take_2 : decode c_L_take 2 = .ok (.aload_n 0, 1) := by decide +kernel
theorem d_L_take_3 : decode c_L_take 3 = .ok (.iload_n 1, 1) := by decide +kernel
theorem d_L_take_4 : decode c_L_take 4 = .ok (.invokevirtual 17, 3) := by decide +kernel
theorem d_L_take_7 : decode c_L_take 7 = .ok (.ifCond .eq 7, 3) := by decide +kernel
theorem d_L_take_10 : decode c_L_take 10 = .ok (.lconst 1, 1) := by decide +kernel
theorem d_L_take_11 : decode c_L_take 11 = .ok (.goto 4, 3) := by decide +kernel
theorem d_L_take_14 : decode c_L_take 14 = .ok (.lconst 0, 1) := by decide +kernel
theorem d_L_take_15 : decode c_L_take 15 = .ok (.lastore, 1) := by decide +kernel
theorem d_L_take_16 : decode c_L_take 16 = .ok (.goto 6, 3) := by decide +kernel
theorem d_L_take_19 : decode c_L_take 19 = .ok (.astore_n 3, 1) := by decide +kernel
theorem d_L_take_20 : decode c_L_take 20 = .ok (.iconst 1, 1) := by decide +kernel
theorem d_L_take_21 : decode c_L_take 21 = .ok (.ireturn, 1) := by decide +kernel
theorem d_L_take_22 : decode c_L_take 22 = .ok (.iconst 0, 1) := by decide +kernel
theorem d_L_take_23 : decode c_L_take 23 = .ok (.ireturn, 1) := by decide +kernel
theorem d_L_find_0 : decode c_L_find 0 = .ok (.aload 6, 2) := by decide +kernel
theorem d_L_find_2 : decode c_L_find 2 = .ok (.iconst 0, 1) := by decide +kernel
theorem d_L_find_3 : decode c_L_find 3 = .ok (.aload_n 0, 1) := by decide +kernel
theorem d_L_find_4 : decode c_L_find 4 = .ok (.iload_n 1, 1) := by decide +kernel
theorem d_L_find_5 : decode c_L_find 5 = .ok (.iload_n 2, 1) := by decide +kernel
theorem d_L_find_6 : decode c_L_find 6 = .ok (.iload_n 3, 1) := by decide +kernel
theorem d_L_find_7 : decode c_L_find 7 = .ok (.iload 4, 2) := by decide +kernel
theorem d_L_find_9 : decode c_L_find 9 = .ok (.iload 5, 2) := by decide +kernel
theorem d_L_find_11 : decode c_L_find 11 = .ok (.invokevirtual 21, 3) := by decide +kernel
theorem d_L_find_14 : decode c_L_find 14 = .ok (.i2l, 1) := by decide +kernel
theorem d_L_find_15 : decode c_L_find 15 = .ok (.lastore, 1) := by decide +kernel
theorem d_L_find_16 : decode c_L_find 16 = .ok (.goto 7, 3) := by decide +kernel
theorem d_L_find_19 : decode c_L_find 19 = .ok (.astore 7, 2) := by decide +kernel
theorem d_L_find_21 : decode c_L_find 21 = .ok (.iconst 1, 1) := by decide +kernel
theorem d_L_find_22 : decode c_L_find 22 = .ok (.ireturn, 1) := by decide +kernel
theorem d_L_find_23 : decode c_L_find 23 = .ok (.iconst 0, 1) := by decide +kernel
theorem d_L_find_24 : decode c_L_find 24 = .ok (.ireturn, 1) := by decide +kernel
theorem d_L_nearest_0 : decode c_L_nearest 0 = .ok (.aload 4, 2) := by decide +kernel
theorem d_L_nearest_2 : decode c_L_nearest 2 = .ok (.iconst 0, 1) := by decide +kernel
theorem d_L_nearest_3 : decode c_L_nearest 3 = .ok (.aload_n 0, 1) := by decide +kernel
theorem d_L_nearest_4 : decode c_L_nearest 4 = .ok (.iload_n 1, 1) := by decide +kernel
theorem d_L_nearest_5 : decode c_L_nearest 5 = .ok (.iload_n 2, 1) := by decide +kernel
theorem d_L_nearest_6 : decode c_L_nearest 6 = .ok (.iload_n 3, 1) := by decide +kernel
theorem d_L_nearest_7 : decode c_L_nearest 7 = .ok (.invokevirtual 25, 3) := by decide +kernel
theorem d_L_nearest_10 : decode c_L_nearest 10 = .ok (.i2l, 1) := by decide +kernel
theorem d_L_nearest_11 : decode c_L_nearest 11 = .ok (.lastore, 1) := by decide +kernel
theorem d_L_nearest_12 : decode c_L_nearest 12 = .ok (.goto 7, 3) := by decide +kernel
theorem d_L_nearest_15 : decode c_L_nearest 15 = .ok (.astore 5, 2) := by decide +kernel
theorem d_L_nearest_17 : decode c_L_nearest 17 = .ok (.iconst 1, 1) := by decide +kernel
theorem d_L_nearest_18 : decode c_L_nearest 18 = .ok (.ireturn, 1) := by decide +kernel
theorem d_L_nearest_19 : decode c_L_nearest 19 = .ok (.iconst 0, 1) := by decide +kernel
theorem d_L_nearest_20 : decode c_L_nearest 20 = .ok (.ireturn, 1) := by decide +kernel
theorem d_L_distance_0 : decode c_L_distance 0 = .ok (.aload 4, 2) := by decide +kernel
theorem d_L_distance_2 : decode c_L_distance 2 = .ok (.iconst 0, 1) := by decide +kernel
theorem d_L_distance_3 : decode c_L_distance 3 = .ok (.aload_n 0, 1) := by decide +kernel
theorem d_L_distance_4 : decode c_L_distance 4 = .ok (.iload_n 1, 1) := by decide +kernel
theorem d_L_distance_5 : decode c_L_distance 5 = .ok (.iload_n 2, 1) := by decide +kernel
theorem d_L_distance_6 : decode c_L_distance 6 = .ok (.iload_n 3, 1) := by decide +kernel
theorem d_L_distance_7 : decode c_L_distance 7 = .ok (.invokevirtual 29, 3) := by decide +kernel
theorem d_L_distance_10 : decode c_L_distance 10 = .ok (.lastore, 1) := by decide +kernel
theorem d_L_distance_11 : decode c_L_distance 11 = .ok (.goto 11, 3) := by decide +kernel
theorem d_L_distance_14 : decode c_L_distance 14 = .ok (.astore 5, 2) := by decide +kernel
theorem d_L_distance_16 : decode c_L_distance 16 = .ok (.iconst 1, 1) := by decide +kernel
theorem d_L_distance_17 : decode c_L_distance 17 = .ok (.ireturn, 1) := by decide +kernel
theorem d_L_distance_18 : decode c_L_distance 18 = .ok (.astore 5, 2) := by decide +kernel
theorem d_L_distance_20 : decode c_L_distance 20 = .ok (.iconst 2, 1) := by decide +kernel
theorem d_L_distance_21 : decode c_L_distance 21 = .ok (.ireturn, 1) := by decide +kernel
theorem d_L_distance_22 : decode c_L_distance 22 = .ok (.iconst 0, 1) := by decide +kernel
theorem d_L_distance_23 : decode c_L_distance 23 = .ok (.ireturn, 1) := by decide +kernel
theorem d_L_bounds_0 : decode c_L_bounds 0 = .ok (.aload_n 2, 1) := by decide +kernel
theorem d_L_bounds_1 : decode c_L_bounds 1 = .ok (.iconst 0, 1) := by decide +kernel
theorem d_L_bounds_2 : decode c_L_bounds 2 = .ok (.aload_n 0, 1) := by decide +kernel
theorem d_L_bounds_3 : decode c_L_bounds 3 = .ok (.iload_n 1, 1) := by decide +kernel
theorem d_L_bounds_4 : decode c_L_bounds 4 = .ok (.invokevirtual 33, 3) := by decide +kernel
theorem d_L_bounds_7 : decode c_L_bounds 7 = .ok (.i2l, 1) := by decide +kernel
theorem d_L_bounds_8 : decode c_L_bounds 8 = .ok (.lastore, 1) := by decide +kernel
theorem d_L_bounds_9 : decode c_L_bounds 9 = .ok (.goto 9, 3) := by decide +kernel
theorem d_L_bounds_12 : decode c_L_bounds 12 = .ok (.astore_n 3, 1) := by decide +kernel
theorem d_L_bounds_13 : decode c_L_bounds 13 = .ok (.iconst 1, 1) := by decide +kernel
theorem d_L_bounds_14 : decode c_L_bounds 14 = .ok (.ireturn, 1) := by decide +kernel
theorem d_L_bounds_15 : decode c_L_bounds 15 = .ok (.astore_n 3, 1) := by decide +kernel
theorem d_L_bounds_16 : decode c_L_bounds 16 = .ok (.iconst 2, 1) := by decide +kernel
theorem d_L_bounds_17 : decode c_L_bounds 17 = .ok (.ireturn, 1) := by decide +kernel
theorem d_L_bounds_18 : decode c_L_bounds 18 = .ok (.iconst 0, 1) := by decide +kernel
theorem d_L_bounds_19 : decode c_L_bounds 19 = .ok (.ireturn, 1) := by decide +kernel
theorem d_L_result_0 : decode c_L_result 0 = .ok (.aload_n 2, 1) := by decide +kernel
theorem d_L_result_1 : decode c_L_result 1 = .ok (.iconst 0, 1) := by decide +kernel
theorem d_L_result_2 : decode c_L_result 2 = .ok (.aload_n 0, 1) := by decide +kernel
theorem d_L_result_3 : decode c_L_result 3 = .ok (.iload_n 1, 1) := by decide +kernel
theorem d_L_result_4 : decode c_L_result 4 = .ok (.invokevirtual 39, 3) := by decide +kernel
theorem d_L_result_7 : decode c_L_result 7 = .ok (.i2l, 1) := by decide +kernel
theorem d_L_result_8 : decode c_L_result 8 = .ok (.lastore, 1) := by decide +kernel
theorem d_L_result_9 : decode c_L_result 9 = .ok (.goto 6, 3) := by decide +kernel
theorem d_L_result_12 : decode c_L_result 12 = .ok (.astore_n 3, 1) := by decide +kernel
theorem d_L_result_13 : decode c_L_result 13 = .ok (.iconst 1, 1) := by decide +kernel
theorem d_L_result_14 : decode c_L_result 14 = .ok (.ireturn, 1) := by decide +kernel
theorem d_L_result_15 : decode c_L_result 15 = .ok (.iconst 0, 1) := by decide +kernel
theorem d_L_result_16 : decode c_L_result 16 = .ok (.ireturn, 1) := by decide +kernel
theorem d_L_box_0 : decode c_L_box 0 = .ok (.aload_n 3, 1) := by decide +kernel
theorem d_L_box_1 : decode c_L_box 1 = .ok (.iconst 0, 1) := by decide +kernel
theorem d_L_box_2 : decode c_L_box 2 = .ok (.aload_n 0, 1) := by decide +kernel
theorem d_L_box_3 : decode c_L_box 3 = .ok (.iload_n 1, 1) := by decide +kernel
theorem d_L_box_4 : decode c_L_box 4 = .ok (.iload_n 2, 1) := by decide +kernel
theorem d_L_box_5 : decode c_L_box 5 = .ok (.invokevirtual 42, 3) := by decide +kernel
theorem d_L_box_8 : decode c_L_box 8 = .ok (.i2l, 1) := by decide +kernel
theorem d_L_box_9 : decode c_L_box 9 = .ok (.lastore, 1) := by decide +kernel
theorem d_L_box_10 : decode c_L_box 10 = .ok (.goto 7, 3) := by decide +kernel
theorem d_L_box_13 : decode c_L_box 13 = .ok (.astore 4, 2) := by decide +kernel
theorem d_L_box_15 : decode c_L_box 15 = .ok (.iconst 1, 1) := by decide +kernel
theorem d_L_box_16 : decode c_L_box 16 = .ok (.ireturn, 1) := by decide +kernel
theorem d_L_box_17 : decode c_L_box 17 = .ok (.iconst 0, 1) := by decide +kernel
theorem d_L_box_18 : decode c_L_box 18 = .ok (.ireturn, 1) := by decide +kernel
end
section
/-! decode rows, by program -/
theorem d_L_law_0 : decode code 0 = .ok (.new 8, 3) := by decide +kernel
theorem d_L_law_3 : decode code 3 = .ok (.dup, 1) := by decide +kernel
theorem d_L_law_4 : decode code 4 = .ok (.invokespecial 46, 3) := by decide +kernel
theorem d_L_law_7 : decode code 7 = .ok (.astore_n 1, 1) := by decide +kernel
theorem d_L_law_8 : decode code 8 = .ok (.new 47, 3) := by decide +kernel
theorem d_L_law_11 : decode code 11 = .ok (.dup, 1) := by decide +kernel
theorem d_L_law_12 : decode code 12 = .ok (.invokespecial 49, 3) := by decide +kernel
theorem d_L_law_15 : decode code 15 = .ok (.astore_n 2, 1) := by decide +kernel
theorem d_L_law_16 : decode code 16 = .ok (.iconst 1, 1) := by decide +kernel
theorem d_L_law_17 : decode code 17 = .ok (.newarray .long, 2) := by decide +kernel
theorem d_L_law_19 : decode code 19 = .ok (.astore_n 3, 1) := by decide +kernel
theorem d_L_law_20 : decode code 20 = .ok (.iconst 0, 1) := by decide +kernel
theorem d_L_law_21 : decode code 21 = .ok (.istore 4, 2) := by decide +kernel
theorem d_L_law_23 : decode code 23 = .ok (.iload 4, 2) := by decide +kernel
theorem d_L_law_25 : decode code 25 = .ok (.aload_n 0, 1) := by decide +kernel
theorem d_L_law_26 : decode code 26 = .ok (.arraylength, 1) := by decide +kernel
theorem d_L_law_27 : decode code 27 = .ok (.bipush 6, 2) := by decide +kernel
theorem d_L_law_29 : decode code 29 = .ok (.isub, 1) := by decide +kernel
theorem d_L_law_30 : decode code 30 = .ok (.if_icmp .gt 744, 3) := by decide +kernel
theorem d_L_law_33 : decode code 33 = .ok (.aload_n 0, 1) := by decide +kernel
theorem d_L_law_34 : decode code 34 = .ok (.iload 4, 2) := by decide +kernel
theorem d_L_law_36 : decode code 36 = .ok (.iaload, 1) := by decide +kernel
theorem d_L_law_37 : decode code 37 = .ok (.bipush 15, 2) := by decide +kernel
theorem d_L_law_39 : decode code 39 = .ok (.iand, 1) := by decide +kernel
theorem d_L_law_40 : decode code 40 = .ok (.tableswitch 728 0 10 #[60, 171, 234, 247, 351, 431, 444, 523, 579, 635, 703], 60) := by decide +kernel
theorem d_L_law_100 : decode code 100 = .ok (.aload_n 1, 1) := by decide +kernel
theorem d_L_law_101 : decode code 101 = .ok (.aload_n 0, 1) := by decide +kernel
theorem d_L_law_102 : decode code 102 = .ok (.iload 4, 2) := by decide +kernel
theorem d_L_law_104 : decode code 104 = .ok (.iconst 1, 1) := by decide +kernel
theorem d_L_law_105 : decode code 105 = .ok (.iadd, 1) := by decide +kernel
theorem d_L_law_106 : decode code 106 = .ok (.iaload, 1) := by decide +kernel
theorem d_L_law_107 : decode code 107 = .ok (.aload_n 0, 1) := by decide +kernel
theorem d_L_law_108 : decode code 108 = .ok (.iload 4, 2) := by decide +kernel
theorem d_L_law_110 : decode code 110 = .ok (.iconst 2, 1) := by decide +kernel
theorem d_L_law_111 : decode code 111 = .ok (.iadd, 1) := by decide +kernel
theorem d_L_law_112 : decode code 112 = .ok (.iaload, 1) := by decide +kernel
theorem d_L_law_113 : decode code 113 = .ok (.aload_n 0, 1) := by decide +kernel
theorem d_L_law_114 : decode code 114 = .ok (.iload 4, 2) := by decide +kernel
theorem d_L_law_116 : decode code 116 = .ok (.iconst 3, 1) := by decide +kernel
theorem d_L_law_117 : decode code 117 = .ok (.iadd, 1) := by decide +kernel
theorem d_L_law_118 : decode code 118 = .ok (.iaload, 1) := by decide +kernel
theorem d_L_law_119 : decode code 119 = .ok (.aload_n 0, 1) := by decide +kernel
theorem d_L_law_120 : decode code 120 = .ok (.iload 4, 2) := by decide +kernel
theorem d_L_law_122 : decode code 122 = .ok (.iconst 4, 1) := by decide +kernel
theorem d_L_law_123 : decode code 123 = .ok (.iadd, 1) := by decide +kernel
theorem d_L_law_124 : decode code 124 = .ok (.iaload, 1) := by decide +kernel
theorem d_L_law_125 : decode code 125 = .ok (.aload_n 0, 1) := by decide +kernel
theorem d_L_law_126 : decode code 126 = .ok (.iload 4, 2) := by decide +kernel
theorem d_L_law_128 : decode code 128 = .ok (.iconst 5, 1) := by decide +kernel
theorem d_L_law_129 : decode code 129 = .ok (.iadd, 1) := by decide +kernel
theorem d_L_law_130 : decode code 130 = .ok (.iaload, 1) := by decide +kernel
theorem d_L_law_131 : decode code 131 = .ok (.aload_n 3, 1) := by decide +kernel
theorem d_L_law_132 : decode code 132 = .ok (.invokestatic 50, 3) := by decide +kernel
theorem d_L_law_135 : decode code 135 = .ok (.istore 5, 2) := by decide +kernel
theorem d_L_law_137 : decode code 137 = .ok (.aload_n 2, 1) := by decide +kernel
theorem d_L_law_138 : decode code 138 = .ok (.aload_n 0, 1) := by decide +kernel
theorem d_L_law_139 : decode code 139 = .ok (.iload 4, 2) := by decide +kernel
theorem d_L_law_141 : decode code 141 = .ok (.iconst 1, 1) := by decide +kernel
theorem d_L_law_142 : decode code 142 = .ok (.iadd, 1) := by decide +kernel
theorem d_L_law_143 : decode code 143 = .ok (.iaload, 1) := by decide +kernel
theorem d_L_law_144 : decode code 144 = .ok (.aload_n 0, 1) := by decide +kernel
theorem d_L_law_145 : decode code 145 = .ok (.iload 4, 2) := by decide +kernel
theorem d_L_law_147 : decode code 147 = .ok (.iconst 2, 1) := by decide +kernel
theorem d_L_law_148 : decode code 148 = .ok (.iadd, 1) := by decide +kernel
theorem d_L_law_149 : decode code 149 = .ok (.iaload, 1) := by decide +kernel
theorem d_L_law_150 : decode code 150 = .ok (.aload_n 0, 1) := by decide +kernel
theorem d_L_law_151 : decode code 151 = .ok (.iload 4, 2) := by decide +kernel
theorem d_L_law_153 : decode code 153 = .ok (.iconst 3, 1) := by decide +kernel
theorem d_L_law_154 : decode code 154 = .ok (.iadd, 1) := by decide +kernel
theorem d_L_law_155 : decode code 155 = .ok (.iaload, 1) := by decide +kernel
theorem d_L_law_156 : decode code 156 = .ok (.aload_n 0, 1) := by decide +kernel
theorem d_L_law_157 : decode code 157 = .ok (.iload 4, 2) := by decide +kernel
theorem d_L_law_159 : decode code 159 = .ok (.iconst 4, 1) := by decide +kernel
theorem d_L_law_160 : decode code 160 = .ok (.iadd, 1) := by decide +kernel
theorem d_L_law_161 : decode code 161 = .ok (.iaload, 1) := by decide +kernel
theorem d_L_law_162 : decode code 162 = .ok (.aload_n 0, 1) := by decide +kernel
theorem d_L_law_163 : decode code 163 = .ok (.iload 4, 2) := by decide +kernel
theorem d_L_law_165 : decode code 165 = .ok (.iconst 5, 1) := by decide +kernel
theorem d_L_law_166 : decode code 166 = .ok (.iadd, 1) := by decide +kernel
theorem d_L_law_167 : decode code 167 = .ok (.iaload, 1) := by decide +kernel
theorem d_L_law_168 : decode code 168 = .ok (.invokevirtual 55, 3) := by decide +kernel
theorem d_L_law_171 : decode code 171 = .ok (.istore 6, 2) := by decide +kernel
theorem d_L_law_173 : decode code 173 = .ok (.aload_n 2, 1) := by decide +kernel
theorem d_L_law_174 : decode code 174 = .ok (.invokevirtual 56, 3) := by decide +kernel
theorem d_L_law_177 : decode code 177 = .ok (.iload 5, 2) := by decide +kernel
theorem d_L_law_179 : decode code 179 = .ok (.if_icmp .eq 5, 3) := by decide +kernel
theorem d_L_law_182 : decode code 182 = .ok (.iconst 0, 1) := by decide +kernel
theorem d_L_law_183 : decode code 183 = .ok (.ireturn, 1) := by decide +kernel
theorem d_L_law_184 : decode code 184 = .ok (.iload 5, 2) := by decide +kernel
theorem d_L_law_186 : decode code 186 = .ok (.ifCond .ne 22, 3) := by decide +kernel
theorem d_L_law_189 : decode code 189 = .ok (.aload_n 3, 1) := by decide +kernel
theorem d_L_law_190 : decode code 190 = .ok (.iconst 0, 1) := by decide +kernel
theorem d_L_law_191 : decode code 191 = .ok (.laload, 1) := by decide +kernel
theorem d_L_law_192 : decode code 192 = .ok (.iload 6, 2) := by decide +kernel
theorem d_L_law_194 : decode code 194 = .ok (.ifCond .eq 7, 3) := by decide +kernel
theorem d_L_law_197 : decode code 197 = .ok (.lconst 1, 1) := by decide +kernel
theorem d_L_law_198 : decode code 198 = .ok (.goto 4, 3) := by decide +kernel
theorem d_L_law_201 : decode code 201 = .ok (.lconst 0, 1) := by decide +kernel
theorem d_L_law_202 : decode code 202 = .ok (.lcmp, 1) := by decide +kernel
theorem d_L_law_203 : decode code 203 = .ok (.ifCond .eq 5, 3) := by decide +kernel
theorem d_L_law_206 : decode code 206 = .ok (.iconst 0, 1) := by decide +kernel
theorem d_L_law_207 : decode code 207 = .ok (.ireturn, 1) := by decide +kernel
theorem d_L_law_208 : decode code 208 = .ok (.goto 560, 3) := by decide +kernel
theorem d_L_law_211 : decode code 211 = .ok (.aload_n 1, 1) := by decide +kernel
theorem d_L_law_212 : decode code 212 = .ok (.aload_n 0, 1) := by decide +kernel
theorem d_L_law_213 : decode code 213 = .ok (.iload 4, 2) := by decide +kernel
theorem d_L_law_215 : decode code 215 = .ok (.iconst 1, 1) := by decide +kernel
theorem d_L_law_216 : decode code 216 = .ok (.iadd, 1) := by decide +kernel
theorem d_L_law_217 : decode code 217 = .ok (.iaload, 1) := by decide +kernel
theorem d_L_law_218 : decode code 218 = .ok (.aload_n 3, 1) := by decide +kernel
theorem d_L_law_219 : decode code 219 = .ok (.invokestatic 60, 3) := by decide +kernel
theorem d_L_law_222 : decode code 222 = .ok (.istore 5, 2) := by decide +kernel
theorem d_L_law_224 : decode code 224 = .ok (.aload_n 2, 1) := by decide +kernel
theorem d_L_law_225 : decode code 225 = .ok (.aload_n 0, 1) := by decide +kernel
theorem d_L_law_226 : decode code 226 = .ok (.iload 4, 2) := by decide +kernel
theorem d_L_law_228 : decode code 228 = .ok (.iconst 1, 1) := by decide +kernel
theorem d_L_law_229 : decode code 229 = .ok (.iadd, 1) := by decide +kernel
theorem d_L_law_230 : decode code 230 = .ok (.iaload, 1) := by decide +kernel
theorem d_L_law_231 : decode code 231 = .ok (.invokevirtual 63, 3) := by decide +kernel
theorem d_L_law_234 : decode code 234 = .ok (.istore 6, 2) := by decide +kernel
theorem d_L_law_236 : decode code 236 = .ok (.aload_n 2, 1) := by decide +kernel
theorem d_L_law_237 : decode code 237 = .ok (.invokevirtual 56, 3) := by decide +kernel
theorem d_L_law_240 : decode code 240 = .ok (.iload 5, 2) := by decide +kernel
theorem d_L_law_242 : decode code 242 = .ok (.if_icmp .eq 5, 3) := by decide +kernel
theorem d_L_law_245 : decode code 245 = .ok (.iconst 0, 1) := by decide +kernel
theorem d_L_law_246 : decode code 246 = .ok (.ireturn, 1) := by decide +kernel
theorem d_L_law_247 : decode code 247 = .ok (.iload 5, 2) := by decide +kernel
theorem d_L_law_249 : decode code 249 = .ok (.ifCond .ne 22, 3) := by decide +kernel
theorem d_L_law_252 : decode code 252 = .ok (.aload_n 3, 1) := by decide +kernel
theorem d_L_law_253 : decode code 253 = .ok (.iconst 0, 1) := by decide +kernel
theorem d_L_law_254 : decode code 254 = .ok (.laload, 1) := by decide +kernel
theorem d_L_law_255 : decode code 255 = .ok (.iload 6, 2) := by decide +kernel
theorem d_L_law_257 : decode code 257 = .ok (.ifCond .eq 7, 3) := by decide +kernel
theorem d_L_law_260 : decode code 260 = .ok (.lconst 1, 1) := by decide +kernel
theorem d_L_law_261 : decode code 261 = .ok (.goto 4, 3) := by decide +kernel
theorem d_L_law_264 : decode code 264 = .ok (.lconst 0, 1) := by decide +kernel
theorem d_L_law_265 : decode code 265 = .ok (.lcmp, 1) := by decide +kernel
theorem d_L_law_266 : decode code 266 = .ok (.ifCond .eq 5, 3) := by decide +kernel
theorem d_L_law_269 : decode code 269 = .ok (.iconst 0, 1) := by decide +kernel
theorem d_L_law_270 : decode code 270 = .ok (.ireturn, 1) := by decide +kernel
theorem d_L_law_271 : decode code 271 = .ok (.goto 497, 3) := by decide +kernel
theorem d_L_law_274 : decode code 274 = .ok (.aload_n 1, 1) := by decide +kernel
theorem d_L_law_275 : decode code 275 = .ok (.invokevirtual 64, 3) := by decide +kernel
theorem d_L_law_278 : decode code 278 = .ok (.aload_n 2, 1) := by decide +kernel
theorem d_L_law_279 : decode code 279 = .ok (.invokevirtual 67, 3) := by decide +kernel
theorem d_L_law_282 : decode code 282 = .ok (.if_icmp .eq 486, 3) := by decide +kernel
theorem d_L_law_285 : decode code 285 = .ok (.iconst 0, 1) := by decide +kernel
theorem d_L_law_286 : decode code 286 = .ok (.ireturn, 1) := by decide +kernel
theorem d_L_law_287 : decode code 287 = .ok (.aload_n 1, 1) := by decide +kernel
theorem d_L_law_288 : decode code 288 = .ok (.aload_n 0, 1) := by decide +kernel
theorem d_L_law_289 : decode code 289 = .ok (.iload 4, 2) := by decide +kernel
theorem d_L_law_291 : decode code 291 = .ok (.iconst 1, 1) := by decide +kernel
theorem d_L_law_292 : decode code 292 = .ok (.iadd, 1) := by decide +kernel
theorem d_L_law_293 : decode code 293 = .ok (.iaload, 1) := by decide +kernel
theorem d_L_law_294 : decode code 294 = .ok (.aload_n 0, 1) := by decide +kernel
theorem d_L_law_295 : decode code 295 = .ok (.iload 4, 2) := by decide +kernel
theorem d_L_law_297 : decode code 297 = .ok (.iconst 2, 1) := by decide +kernel
theorem d_L_law_298 : decode code 298 = .ok (.iadd, 1) := by decide +kernel
theorem d_L_law_299 : decode code 299 = .ok (.iaload, 1) := by decide +kernel
theorem d_L_law_300 : decode code 300 = .ok (.aload_n 0, 1) := by decide +kernel
theorem d_L_law_301 : decode code 301 = .ok (.iload 4, 2) := by decide +kernel
theorem d_L_law_303 : decode code 303 = .ok (.iconst 3, 1) := by decide +kernel
theorem d_L_law_304 : decode code 304 = .ok (.iadd, 1) := by decide +kernel
theorem d_L_law_305 : decode code 305 = .ok (.iaload, 1) := by decide +kernel
theorem d_L_law_306 : decode code 306 = .ok (.aload_n 0, 1) := by decide +kernel
theorem d_L_law_307 : decode code 307 = .ok (.iload 4, 2) := by decide +kernel
theorem d_L_law_309 : decode code 309 = .ok (.iconst 4, 1) := by decide +kernel
theorem d_L_law_310 : decode code 310 = .ok (.iadd, 1) := by decide +kernel
theorem d_L_law_311 : decode code 311 = .ok (.iaload, 1) := by decide +kernel
theorem d_L_law_312 : decode code 312 = .ok (.aload_n 0, 1) := by decide +kernel
theorem d_L_law_313 : decode code 313 = .ok (.iload 4, 2) := by decide +kernel
theorem d_L_law_315 : decode code 315 = .ok (.iconst 5, 1) := by decide +kernel
theorem d_L_law_316 : decode code 316 = .ok (.iadd, 1) := by decide +kernel
theorem d_L_law_317 : decode code 317 = .ok (.iaload, 1) := by decide +kernel
theorem d_L_law_318 : decode code 318 = .ok (.aload_n 3, 1) := by decide +kernel
theorem d_L_law_319 : decode code 319 = .ok (.invokestatic 68, 3) := by decide +kernel
theorem d_L_law_322 : decode code 322 = .ok (.istore 5, 2) := by decide +kernel
theorem d_L_law_324 : decode code 324 = .ok (.aload_n 2, 1) := by decide +kernel
theorem d_L_law_325 : decode code 325 = .ok (.aload_n 0, 1) := by decide +kernel
theorem d_L_law_326 : decode code 326 = .ok (.iload 4, 2) := by decide +kernel
theorem d_L_law_328 : decode code 328 = .ok (.iconst 1, 1) := by decide +kernel
theorem d_L_law_329 : decode code 329 = .ok (.iadd, 1) := by decide +kernel
theorem d_L_law_330 : decode code 330 = .ok (.iaload, 1) := by decide +kernel
theorem d_L_law_331 : decode code 331 = .ok (.aload_n 0, 1) := by decide +kernel
theorem d_L_law_332 : decode code 332 = .ok (.iload 4, 2) := by decide +kernel
theorem d_L_law_334 : decode code 334 = .ok (.iconst 2, 1) := by decide +kernel
theorem d_L_law_335 : decode code 335 = .ok (.iadd, 1) := by decide +kernel
theorem d_L_law_336 : decode code 336 = .ok (.iaload, 1) := by decide +kernel
theorem d_L_law_337 : decode code 337 = .ok (.aload_n 0, 1) := by decide +kernel
theorem d_L_law_338 : decode code 338 = .ok (.iload 4, 2) := by decide +kernel
theorem d_L_law_340 : decode code 340 = .ok (.iconst 3, 1) := by decide +kernel
theorem d_L_law_341 : decode code 341 = .ok (.iadd, 1) := by decide +kernel
theorem d_L_law_342 : decode code 342 = .ok (.iaload, 1) := by decide +kernel
theorem d_L_law_343 : decode code 343 = .ok (.aload_n 0, 1) := by decide +kernel
theorem d_L_law_344 : decode code 344 = .ok (.iload 4, 2) := by decide +kernel
theorem d_L_law_346 : decode code 346 = .ok (.iconst 4, 1) := by decide +kernel
theorem d_L_law_347 : decode code 347 = .ok (.iadd, 1) := by decide +kernel
theorem d_L_law_348 : decode code 348 = .ok (.iaload, 1) := by decide +kernel
theorem d_L_law_349 : decode code 349 = .ok (.aload_n 0, 1) := by decide +kernel
theorem d_L_law_350 : decode code 350 = .ok (.iload 4, 2) := by decide +kernel
theorem d_L_law_352 : decode code 352 = .ok (.iconst 5, 1) := by decide +kernel
theorem d_L_law_353 : decode code 353 = .ok (.iadd, 1) := by decide +kernel
theorem d_L_law_354 : decode code 354 = .ok (.iaload, 1) := by decide +kernel
theorem d_L_law_355 : decode code 355 = .ok (.invokevirtual 70, 3) := by decide +kernel
theorem d_L_law_358 : decode code 358 = .ok (.istore 6, 2) := by decide +kernel
theorem d_L_law_360 : decode code 360 = .ok (.aload_n 2, 1) := by decide +kernel
theorem d_L_law_361 : decode code 361 = .ok (.invokevirtual 56, 3) := by decide +kernel
theorem d_L_law_364 : decode code 364 = .ok (.iload 5, 2) := by decide +kernel
theorem d_L_law_366 : decode code 366 = .ok (.if_icmp .eq 5, 3) := by decide +kernel
theorem d_L_law_369 : decode code 369 = .ok (.iconst 0, 1) := by decide +kernel
theorem d_L_law_370 : decode code 370 = .ok (.ireturn, 1) := by decide +kernel
theorem d_L_law_371 : decode code 371 = .ok (.iload 5, 2) := by decide +kernel
theorem d_L_law_373 : decode code 373 = .ok (.ifCond .ne 15, 3) := by decide +kernel
theorem d_L_law_376 : decode code 376 = .ok (.aload_n 3, 1) := by decide +kernel
theorem d_L_law_377 : decode code 377 = .ok (.iconst 0, 1) := by decide +kernel
theorem d_L_law_378 : decode code 378 = .ok (.laload, 1) := by decide +kernel
theorem d_L_law_379 : decode code 379 = .ok (.iload 6, 2) := by decide +kernel
theorem d_L_law_381 : decode code 381 = .ok (.i2l, 1) := by decide +kernel
theorem d_L_law_382 : decode code 382 = .ok (.lcmp, 1) := by decide +kernel
theorem d_L_law_383 : decode code 383 = .ok (.ifCond .eq 5, 3) := by decide +kernel
theorem d_L_law_386 : decode code 386 = .ok (.iconst 0, 1) := by decide +kernel
theorem d_L_law_387 : decode code 387 = .ok (.ireturn, 1) := by decide +kernel
theorem d_L_law_388 : decode code 388 = .ok (.goto 380, 3) := by decide +kernel
theorem d_L_law_391 : decode code 391 = .ok (.aload_n 1, 1) := by decide +kernel
theorem d_L_law_392 : decode code 392 = .ok (.aload_n 0, 1) := by decide +kernel
theorem d_L_law_393 : decode code 393 = .ok (.iload 4, 2) := by decide +kernel
theorem d_L_law_395 : decode code 395 = .ok (.iconst 1, 1) := by decide +kernel
theorem d_L_law_396 : decode code 396 = .ok (.iadd, 1) := by decide +kernel
theorem d_L_law_397 : decode code 397 = .ok (.iaload, 1) := by decide +kernel
theorem d_L_law_398 : decode code 398 = .ok (.aload_n 0, 1) := by decide +kernel
theorem d_L_law_399 : decode code 399 = .ok (.iload 4, 2) := by decide +kernel
theorem d_L_law_401 : decode code 401 = .ok (.iconst 2, 1) := by decide +kernel
theorem d_L_law_402 : decode code 402 = .ok (.iadd, 1) := by decide +kernel
theorem d_L_law_403 : decode code 403 = .ok (.iaload, 1) := by decide +kernel
theorem d_L_law_404 : decode code 404 = .ok (.aload_n 0, 1) := by decide +kernel
theorem d_L_law_405 : decode code 405 = .ok (.iload 4, 2) := by decide +kernel
theorem d_L_law_407 : decode code 407 = .ok (.iconst 3, 1) := by decide +kernel
theorem d_L_law_408 : decode code 408 = .ok (.iadd, 1) := by decide +kernel
theorem d_L_law_409 : decode code 409 = .ok (.iaload, 1) := by decide +kernel
theorem d_L_law_410 : decode code 410 = .ok (.aload_n 3, 1) := by decide +kernel
end
section
/-! decode rows, by program -/
theorem d_L_law_411 : decode code 411 = .ok (.invokestatic 71, 3) := by decide +kernel
theorem d_L_law_414 : decode code 414 = .ok (.istore 5, 2) := by decide +kernel
theorem d_L_law_416 : decode code 416 = .ok (.aload_n 2, 1) := by decide +kernel
theorem d_L_law_417 : decode code 417 = .ok (.aload_n 0, 1) := by decide +kernel
theorem d_L_law_418 : decode code 418 = .ok (.iload 4, 2) := by decide +kernel
theorem d_L_law_420 : decode code 420 = .ok (.iconst 1, 1) := by decide +kernel
theorem d_L_law_421 : decode code 421 = .ok (.iadd, 1) := by decide +kernel
theorem d_L_law_422 : decode code 422 = .ok (.iaload, 1) := by decide +kernel
theorem d_L_law_423 : decode code 423 = .ok (.aload_n 0, 1) := by decide +kernel
theorem d_L_law_424 : decode code 424 = .ok (.iload 4, 2) := by decide +kernel
theorem d_L_law_426 : decode code 426 = .ok (.iconst 2, 1) := by decide +kernel
theorem d_L_law_427 : decode code 427 = .ok (.iadd, 1) := by decide +kernel
theorem d_L_law_428 : decode code 428 = .ok (.iaload, 1) := by decide +kernel
theorem d_L_law_429 : decode code 429 = .ok (.aload_n 0, 1) := by decide +kernel
theorem d_L_law_430 : decode code 430 = .ok (.iload 4, 2) := by decide +kernel
theorem d_L_law_432 : decode code 432 = .ok (.iconst 3, 1) := by decide +kernel
theorem d_L_law_433 : decode code 433 = .ok (.iadd, 1) := by decide +kernel
theorem d_L_law_434 : decode code 434 = .ok (.iaload, 1) := by decide +kernel
theorem d_L_law_435 : decode code 435 = .ok (.invokevirtual 74, 3) := by decide +kernel
theorem d_L_law_438 : decode code 438 = .ok (.istore 6, 2) := by decide +kernel
theorem d_L_law_440 : decode code 440 = .ok (.aload_n 2, 1) := by decide +kernel
theorem d_L_law_441 : decode code 441 = .ok (.invokevirtual 56, 3) := by decide +kernel
theorem d_L_law_444 : decode code 444 = .ok (.iload 5, 2) := by decide +kernel
theorem d_L_law_446 : decode code 446 = .ok (.if_icmp .eq 5, 3) := by decide +kernel
theorem d_L_law_449 : decode code 449 = .ok (.iconst 0, 1) := by decide +kernel
theorem d_L_law_450 : decode code 450 = .ok (.ireturn, 1) := by decide +kernel
theorem d_L_law_451 : decode code 451 = .ok (.iload 5, 2) := by decide +kernel
theorem d_L_law_453 : decode code 453 = .ok (.ifCond .ne 15, 3) := by decide +kernel
theorem d_L_law_456 : decode code 456 = .ok (.aload_n 3, 1) := by decide +kernel
theorem d_L_law_457 : decode code 457 = .ok (.iconst 0, 1) := by decide +kernel
theorem d_L_law_458 : decode code 458 = .ok (.laload, 1) := by decide +kernel
theorem d_L_law_459 : decode code 459 = .ok (.iload 6, 2) := by decide +kernel
theorem d_L_law_461 : decode code 461 = .ok (.i2l, 1) := by decide +kernel
theorem d_L_law_462 : decode code 462 = .ok (.lcmp, 1) := by decide +kernel
theorem d_L_law_463 : decode code 463 = .ok (.ifCond .eq 5, 3) := by decide +kernel
theorem d_L_law_466 : decode code 466 = .ok (.iconst 0, 1) := by decide +kernel
theorem d_L_law_467 : decode code 467 = .ok (.ireturn, 1) := by decide +kernel
theorem d_L_law_468 : decode code 468 = .ok (.goto 300, 3) := by decide +kernel
theorem d_L_law_471 : decode code 471 = .ok (.aload_n 1, 1) := by decide +kernel
theorem d_L_law_472 : decode code 472 = .ok (.invokevirtual 75, 3) := by decide +kernel
theorem d_L_law_475 : decode code 475 = .ok (.aload_n 2, 1) := by decide +kernel
theorem d_L_law_476 : decode code 476 = .ok (.invokevirtual 78, 3) := by decide +kernel
theorem d_L_law_479 : decode code 479 = .ok (.if_icmp .eq 289, 3) := by decide +kernel
theorem d_L_law_482 : decode code 482 = .ok (.iconst 0, 1) := by decide +kernel
theorem d_L_law_483 : decode code 483 = .ok (.ireturn, 1) := by decide +kernel
theorem d_L_law_484 : decode code 484 = .ok (.aload_n 1, 1) := by decide +kernel
theorem d_L_law_485 : decode code 485 = .ok (.aload_n 0, 1) := by decide +kernel
theorem d_L_law_486 : decode code 486 = .ok (.iload 4, 2) := by decide +kernel
theorem d_L_law_488 : decode code 488 = .ok (.iconst 1, 1) := by decide +kernel
theorem d_L_law_489 : decode code 489 = .ok (.iadd, 1) := by decide +kernel
theorem d_L_law_490 : decode code 490 = .ok (.iaload, 1) := by decide +kernel
theorem d_L_law_491 : decode code 491 = .ok (.aload_n 0, 1) := by decide +kernel
theorem d_L_law_492 : decode code 492 = .ok (.iload 4, 2) := by decide +kernel
theorem d_L_law_494 : decode code 494 = .ok (.iconst 2, 1) := by decide +kernel
theorem d_L_law_495 : decode code 495 = .ok (.iadd, 1) := by decide +kernel
theorem d_L_law_496 : decode code 496 = .ok (.iaload, 1) := by decide +kernel
theorem d_L_law_497 : decode code 497 = .ok (.aload_n 0, 1) := by decide +kernel
theorem d_L_law_498 : decode code 498 = .ok (.iload 4, 2) := by decide +kernel
theorem d_L_law_500 : decode code 500 = .ok (.iconst 3, 1) := by decide +kernel
theorem d_L_law_501 : decode code 501 = .ok (.iadd, 1) := by decide +kernel
theorem d_L_law_502 : decode code 502 = .ok (.iaload, 1) := by decide +kernel
theorem d_L_law_503 : decode code 503 = .ok (.aload_n 3, 1) := by decide +kernel
theorem d_L_law_504 : decode code 504 = .ok (.invokestatic 79, 3) := by decide +kernel
theorem d_L_law_507 : decode code 507 = .ok (.istore 5, 2) := by decide +kernel
theorem d_L_law_509 : decode code 509 = .ok (.aload_n 2, 1) := by decide +kernel
theorem d_L_law_510 : decode code 510 = .ok (.aload_n 0, 1) := by decide +kernel
theorem d_L_law_511 : decode code 511 = .ok (.iload 4, 2) := by decide +kernel
theorem d_L_law_513 : decode code 513 = .ok (.iconst 1, 1) := by decide +kernel
theorem d_L_law_514 : decode code 514 = .ok (.iadd, 1) := by decide +kernel
theorem d_L_law_515 : decode code 515 = .ok (.iaload, 1) := by decide +kernel
theorem d_L_law_516 : decode code 516 = .ok (.aload_n 0, 1) := by decide +kernel
theorem d_L_law_517 : decode code 517 = .ok (.iload 4, 2) := by decide +kernel
theorem d_L_law_519 : decode code 519 = .ok (.iconst 2, 1) := by decide +kernel
theorem d_L_law_520 : decode code 520 = .ok (.iadd, 1) := by decide +kernel
theorem d_L_law_521 : decode code 521 = .ok (.iaload, 1) := by decide +kernel
theorem d_L_law_522 : decode code 522 = .ok (.aload_n 0, 1) := by decide +kernel
theorem d_L_law_523 : decode code 523 = .ok (.iload 4, 2) := by decide +kernel
theorem d_L_law_525 : decode code 525 = .ok (.iconst 3, 1) := by decide +kernel
theorem d_L_law_526 : decode code 526 = .ok (.iadd, 1) := by decide +kernel
theorem d_L_law_527 : decode code 527 = .ok (.iaload, 1) := by decide +kernel
theorem d_L_law_528 : decode code 528 = .ok (.invokevirtual 81, 3) := by decide +kernel
theorem d_L_law_531 : decode code 531 = .ok (.lstore 6, 2) := by decide +kernel
theorem d_L_law_533 : decode code 533 = .ok (.aload_n 2, 1) := by decide +kernel
theorem d_L_law_534 : decode code 534 = .ok (.invokevirtual 56, 3) := by decide +kernel
theorem d_L_law_537 : decode code 537 = .ok (.iload 5, 2) := by decide +kernel
theorem d_L_law_539 : decode code 539 = .ok (.if_icmp .eq 5, 3) := by decide +kernel
theorem d_L_law_542 : decode code 542 = .ok (.iconst 0, 1) := by decide +kernel
theorem d_L_law_543 : decode code 543 = .ok (.ireturn, 1) := by decide +kernel
theorem d_L_law_544 : decode code 544 = .ok (.iload 5, 2) := by decide +kernel
theorem d_L_law_546 : decode code 546 = .ok (.ifCond .ne 14, 3) := by decide +kernel
theorem d_L_law_549 : decode code 549 = .ok (.aload_n 3, 1) := by decide +kernel
theorem d_L_law_550 : decode code 550 = .ok (.iconst 0, 1) := by decide +kernel
theorem d_L_law_551 : decode code 551 = .ok (.laload, 1) := by decide +kernel
theorem d_L_law_552 : decode code 552 = .ok (.lload 6, 2) := by decide +kernel
theorem d_L_law_554 : decode code 554 = .ok (.lcmp, 1) := by decide +kernel
theorem d_L_law_555 : decode code 555 = .ok (.ifCond .eq 5, 3) := by decide +kernel
theorem d_L_law_558 : decode code 558 = .ok (.iconst 0, 1) := by decide +kernel
theorem d_L_law_559 : decode code 559 = .ok (.ireturn, 1) := by decide +kernel
theorem d_L_law_560 : decode code 560 = .ok (.goto 208, 3) := by decide +kernel
theorem d_L_law_563 : decode code 563 = .ok (.aload_n 1, 1) := by decide +kernel
theorem d_L_law_564 : decode code 564 = .ok (.aload_n 0, 1) := by decide +kernel
theorem d_L_law_565 : decode code 565 = .ok (.iload 4, 2) := by decide +kernel
theorem d_L_law_567 : decode code 567 = .ok (.iconst 1, 1) := by decide +kernel
theorem d_L_law_568 : decode code 568 = .ok (.iadd, 1) := by decide +kernel
theorem d_L_law_569 : decode code 569 = .ok (.iaload, 1) := by decide +kernel
theorem d_L_law_570 : decode code 570 = .ok (.aload_n 3, 1) := by decide +kernel
theorem d_L_law_571 : decode code 571 = .ok (.invokestatic 82, 3) := by decide +kernel
theorem d_L_law_574 : decode code 574 = .ok (.istore 5, 2) := by decide +kernel
theorem d_L_law_576 : decode code 576 = .ok (.aload_n 2, 1) := by decide +kernel
theorem d_L_law_577 : decode code 577 = .ok (.aload_n 0, 1) := by decide +kernel
theorem d_L_law_578 : decode code 578 = .ok (.iload 4, 2) := by decide +kernel
theorem d_L_law_580 : decode code 580 = .ok (.iconst 1, 1) := by decide +kernel
theorem d_L_law_581 : decode code 581 = .ok (.iadd, 1) := by decide +kernel
theorem d_L_law_582 : decode code 582 = .ok (.iaload, 1) := by decide +kernel
theorem d_L_law_583 : decode code 583 = .ok (.invokevirtual 84, 3) := by decide +kernel
theorem d_L_law_586 : decode code 586 = .ok (.istore 6, 2) := by decide +kernel
theorem d_L_law_588 : decode code 588 = .ok (.aload_n 2, 1) := by decide +kernel
theorem d_L_law_589 : decode code 589 = .ok (.invokevirtual 56, 3) := by decide +kernel
theorem d_L_law_592 : decode code 592 = .ok (.iload 5, 2) := by decide +kernel
theorem d_L_law_594 : decode code 594 = .ok (.if_icmp .eq 5, 3) := by decide +kernel
theorem d_L_law_597 : decode code 597 = .ok (.iconst 0, 1) := by decide +kernel
theorem d_L_law_598 : decode code 598 = .ok (.ireturn, 1) := by decide +kernel
theorem d_L_law_599 : decode code 599 = .ok (.iload 5, 2) := by decide +kernel
theorem d_L_law_601 : decode code 601 = .ok (.ifCond .ne 15, 3) := by decide +kernel
theorem d_L_law_604 : decode code 604 = .ok (.aload_n 3, 1) := by decide +kernel
theorem d_L_law_605 : decode code 605 = .ok (.iconst 0, 1) := by decide +kernel
theorem d_L_law_606 : decode code 606 = .ok (.laload, 1) := by decide +kernel
theorem d_L_law_607 : decode code 607 = .ok (.iload 6, 2) := by decide +kernel
theorem d_L_law_609 : decode code 609 = .ok (.i2l, 1) := by decide +kernel
theorem d_L_law_610 : decode code 610 = .ok (.lcmp, 1) := by decide +kernel
theorem d_L_law_611 : decode code 611 = .ok (.ifCond .eq 5, 3) := by decide +kernel
theorem d_L_law_614 : decode code 614 = .ok (.iconst 0, 1) := by decide +kernel
theorem d_L_law_615 : decode code 615 = .ok (.ireturn, 1) := by decide +kernel
theorem d_L_law_616 : decode code 616 = .ok (.goto 152, 3) := by decide +kernel
theorem d_L_law_619 : decode code 619 = .ok (.aload_n 1, 1) := by decide +kernel
theorem d_L_law_620 : decode code 620 = .ok (.aload_n 0, 1) := by decide +kernel
theorem d_L_law_621 : decode code 621 = .ok (.iload 4, 2) := by decide +kernel
theorem d_L_law_623 : decode code 623 = .ok (.iconst 1, 1) := by decide +kernel
theorem d_L_law_624 : decode code 624 = .ok (.iadd, 1) := by decide +kernel
theorem d_L_law_625 : decode code 625 = .ok (.iaload, 1) := by decide +kernel
theorem d_L_law_626 : decode code 626 = .ok (.aload_n 3, 1) := by decide +kernel
theorem d_L_law_627 : decode code 627 = .ok (.invokestatic 85, 3) := by decide +kernel
theorem d_L_law_630 : decode code 630 = .ok (.istore 5, 2) := by decide +kernel
theorem d_L_law_632 : decode code 632 = .ok (.aload_n 2, 1) := by decide +kernel
theorem d_L_law_633 : decode code 633 = .ok (.aload_n 0, 1) := by decide +kernel
theorem d_L_law_634 : decode code 634 = .ok (.iload 4, 2) := by decide +kernel
theorem d_L_law_636 : decode code 636 = .ok (.iconst 1, 1) := by decide +kernel
theorem d_L_law_637 : decode code 637 = .ok (.iadd, 1) := by decide +kernel
theorem d_L_law_638 : decode code 638 = .ok (.iaload, 1) := by decide +kernel
theorem d_L_law_639 : decode code 639 = .ok (.invokevirtual 87, 3) := by decide +kernel
theorem d_L_law_642 : decode code 642 = .ok (.istore 6, 2) := by decide +kernel
theorem d_L_law_644 : decode code 644 = .ok (.aload_n 2, 1) := by decide +kernel
theorem d_L_law_645 : decode code 645 = .ok (.invokevirtual 56, 3) := by decide +kernel
theorem d_L_law_648 : decode code 648 = .ok (.iload 5, 2) := by decide +kernel
theorem d_L_law_650 : decode code 650 = .ok (.if_icmp .eq 5, 3) := by decide +kernel
theorem d_L_law_653 : decode code 653 = .ok (.iconst 0, 1) := by decide +kernel
theorem d_L_law_654 : decode code 654 = .ok (.ireturn, 1) := by decide +kernel
theorem d_L_law_655 : decode code 655 = .ok (.iload 5, 2) := by decide +kernel
theorem d_L_law_657 : decode code 657 = .ok (.ifCond .ne 15, 3) := by decide +kernel
theorem d_L_law_660 : decode code 660 = .ok (.aload_n 3, 1) := by decide +kernel
theorem d_L_law_661 : decode code 661 = .ok (.iconst 0, 1) := by decide +kernel
theorem d_L_law_662 : decode code 662 = .ok (.laload, 1) := by decide +kernel
theorem d_L_law_663 : decode code 663 = .ok (.iload 6, 2) := by decide +kernel
theorem d_L_law_665 : decode code 665 = .ok (.i2l, 1) := by decide +kernel
theorem d_L_law_666 : decode code 666 = .ok (.lcmp, 1) := by decide +kernel
theorem d_L_law_667 : decode code 667 = .ok (.ifCond .eq 5, 3) := by decide +kernel
theorem d_L_law_670 : decode code 670 = .ok (.iconst 0, 1) := by decide +kernel
theorem d_L_law_671 : decode code 671 = .ok (.ireturn, 1) := by decide +kernel
theorem d_L_law_672 : decode code 672 = .ok (.goto 96, 3) := by decide +kernel
theorem d_L_law_675 : decode code 675 = .ok (.aload_n 1, 1) := by decide +kernel
theorem d_L_law_676 : decode code 676 = .ok (.aload_n 0, 1) := by decide +kernel
theorem d_L_law_677 : decode code 677 = .ok (.iload 4, 2) := by decide +kernel
theorem d_L_law_679 : decode code 679 = .ok (.iconst 1, 1) := by decide +kernel
theorem d_L_law_680 : decode code 680 = .ok (.iadd, 1) := by decide +kernel
theorem d_L_law_681 : decode code 681 = .ok (.iaload, 1) := by decide +kernel
theorem d_L_law_682 : decode code 682 = .ok (.aload_n 0, 1) := by decide +kernel
theorem d_L_law_683 : decode code 683 = .ok (.iload 4, 2) := by decide +kernel
theorem d_L_law_685 : decode code 685 = .ok (.iconst 2, 1) := by decide +kernel
theorem d_L_law_686 : decode code 686 = .ok (.iadd, 1) := by decide +kernel
theorem d_L_law_687 : decode code 687 = .ok (.iaload, 1) := by decide +kernel
theorem d_L_law_688 : decode code 688 = .ok (.aload_n 3, 1) := by decide +kernel
theorem d_L_law_689 : decode code 689 = .ok (.invokestatic 88, 3) := by decide +kernel
theorem d_L_law_692 : decode code 692 = .ok (.istore 5, 2) := by decide +kernel
theorem d_L_law_694 : decode code 694 = .ok (.aload_n 2, 1) := by decide +kernel
theorem d_L_law_695 : decode code 695 = .ok (.aload_n 0, 1) := by decide +kernel
theorem d_L_law_696 : decode code 696 = .ok (.iload 4, 2) := by decide +kernel
theorem d_L_law_698 : decode code 698 = .ok (.iconst 1, 1) := by decide +kernel
theorem d_L_law_699 : decode code 699 = .ok (.iadd, 1) := by decide +kernel
theorem d_L_law_700 : decode code 700 = .ok (.iaload, 1) := by decide +kernel
theorem d_L_law_701 : decode code 701 = .ok (.aload_n 0, 1) := by decide +kernel
theorem d_L_law_702 : decode code 702 = .ok (.iload 4, 2) := by decide +kernel
theorem d_L_law_704 : decode code 704 = .ok (.iconst 2, 1) := by decide +kernel
theorem d_L_law_705 : decode code 705 = .ok (.iadd, 1) := by decide +kernel
theorem d_L_law_706 : decode code 706 = .ok (.iaload, 1) := by decide +kernel
theorem d_L_law_707 : decode code 707 = .ok (.invokevirtual 91, 3) := by decide +kernel
theorem d_L_law_710 : decode code 710 = .ok (.istore 6, 2) := by decide +kernel
theorem d_L_law_712 : decode code 712 = .ok (.aload_n 2, 1) := by decide +kernel
theorem d_L_law_713 : decode code 713 = .ok (.invokevirtual 56, 3) := by decide +kernel
theorem d_L_law_716 : decode code 716 = .ok (.iload 5, 2) := by decide +kernel
theorem d_L_law_718 : decode code 718 = .ok (.if_icmp .eq 5, 3) := by decide +kernel
theorem d_L_law_721 : decode code 721 = .ok (.iconst 0, 1) := by decide +kernel
theorem d_L_law_722 : decode code 722 = .ok (.ireturn, 1) := by decide +kernel
theorem d_L_law_723 : decode code 723 = .ok (.iload 5, 2) := by decide +kernel
theorem d_L_law_725 : decode code 725 = .ok (.ifCond .ne 15, 3) := by decide +kernel
theorem d_L_law_728 : decode code 728 = .ok (.aload_n 3, 1) := by decide +kernel
theorem d_L_law_729 : decode code 729 = .ok (.iconst 0, 1) := by decide +kernel
theorem d_L_law_730 : decode code 730 = .ok (.laload, 1) := by decide +kernel
theorem d_L_law_731 : decode code 731 = .ok (.iload 6, 2) := by decide +kernel
theorem d_L_law_733 : decode code 733 = .ok (.i2l, 1) := by decide +kernel
theorem d_L_law_734 : decode code 734 = .ok (.lcmp, 1) := by decide +kernel
theorem d_L_law_735 : decode code 735 = .ok (.ifCond .eq 5, 3) := by decide +kernel
theorem d_L_law_738 : decode code 738 = .ok (.iconst 0, 1) := by decide +kernel
theorem d_L_law_739 : decode code 739 = .ok (.ireturn, 1) := by decide +kernel
theorem d_L_law_740 : decode code 740 = .ok (.goto 28, 3) := by decide +kernel
theorem d_L_law_743 : decode code 743 = .ok (.aload_n 1, 1) := by decide +kernel
theorem d_L_law_744 : decode code 744 = .ok (.aload_n 0, 1) := by decide +kernel
theorem d_L_law_745 : decode code 745 = .ok (.iload 4, 2) := by decide +kernel
theorem d_L_law_747 : decode code 747 = .ok (.iconst 1, 1) := by decide +kernel
theorem d_L_law_748 : decode code 748 = .ok (.iadd, 1) := by decide +kernel
theorem d_L_law_749 : decode code 749 = .ok (.iaload, 1) := by decide +kernel
theorem d_L_law_750 : decode code 750 = .ok (.invokevirtual 92, 3) := by decide +kernel
theorem d_L_law_753 : decode code 753 = .ok (.aload_n 2, 1) := by decide +kernel
theorem d_L_law_754 : decode code 754 = .ok (.aload_n 0, 1) := by decide +kernel
theorem d_L_law_755 : decode code 755 = .ok (.iload 4, 2) := by decide +kernel
theorem d_L_law_757 : decode code 757 = .ok (.iconst 1, 1) := by decide +kernel
theorem d_L_law_758 : decode code 758 = .ok (.iadd, 1) := by decide +kernel
theorem d_L_law_759 : decode code 759 = .ok (.iaload, 1) := by decide +kernel
theorem d_L_law_760 : decode code 760 = .ok (.invokevirtual 95, 3) := by decide +kernel
theorem d_L_law_763 : decode code 763 = .ok (.if_icmp .eq 5, 3) := by decide +kernel
theorem d_L_law_766 : decode code 766 = .ok (.iconst 0, 1) := by decide +kernel
theorem d_L_law_767 : decode code 767 = .ok (.ireturn, 1) := by decide +kernel
theorem d_L_law_768 : decode code 768 = .ok (.iinc 4 6, 3) := by decide +kernel
theorem d_L_law_771 : decode code 771 = .ok (.goto (-748), 3) := by decide +kernel
theorem d_L_law_774 : decode code 774 = .ok (.iconst 1, 1) := by decide +kernel
theorem d_L_law_775 : decode code 775 = .ok (.ireturn, 1) := by decide +kernel
end
section
/-! Class tables, what stays of the start (Ev), contracts over worlds, their entries and calls. -/
def TA : u_T := fun k => match k with
  | 0 => ("java/util/AbstractList", "modCount", "I", false)
  | 1 => ("java/util/ArrayList", "elementData", "[Ljava/lang/Object;", false)
  | _ => ("java/util/ArrayList", "size", "I", false)
def tyA : Nat → FieldType := fun k => match k with
  | 0 => .int
  | 1 => .array (.object "java/lang/Object")
  | _ => .int
def TX : u_T := fun k => match k with
  | 0 => ("BoxDrawer$Box", "number", "I", true)
  | 1 => ("BoxDrawer$Box", "lowX", "I", true)
  | 2 => ("BoxDrawer$Box", "lowY", "I", true)
  | 3 => ("BoxDrawer$Box", "highX", "I", true)
  | _ => ("BoxDrawer$Box", "highY", "I", true)
def tyX : Nat → FieldType := fun _ => .int
def TB : u_T := fun k => match k with
  | 0 => ("BoxDrawer", "boxes", "Ljava/util/ArrayList;", true)
  | 1 => ("BoxDrawer", "found", "[I", false)
  | 2 => ("BoxDrawer", "foundCount", "I", false)
  | _ => ("BoxDrawer", "foundDistances", "[J", false)
def tyB : Nat → FieldType := fun k => match k with
  | 0 => .object "java/util/ArrayList"
  | 1 => .array .int
  | 2 => .int
  | _ => .array .long
def TM : u_T := fun k => match k with
  | 0 => ("BoxDrawerModel", "thrown", "I", false)
  | 1 => ("BoxDrawerModel", "there", "[Z", true)
  | 2 => ("BoxDrawerModel", "lowX", "[I", true)
  | 3 => ("BoxDrawerModel", "lowY", "[I", true)
  | 4 => ("BoxDrawerModel", "highX", "[I", true)
  | 5 => ("BoxDrawerModel", "highY", "[I", true)
  | 6 => ("BoxDrawerModel", "size", "I", false)
  | _ => ("BoxDrawerModel", "result", "[I", true)
def tyM : Nat → FieldType := fun k => match k with
  | 0 => .int
  | 1 => .array .boolean
  | 2 => .array .int
  | 3 => .array .int
  | 4 => .array .int
  | 5 => .array .int
  | 6 => .int
  | _ => .array .int
abbrev kls : List vw_C := [("java/util/ArrayList", TA, 3), ("BoxDrawer$Box", TX, 5), ("BoxDrawer", TB, 4), ("BoxDrawerModel", TM, 8)]
theorem nmA : ∀ a, a < 3 → ∀ b, b < 3 → a ≠ b → (TA a).2.1 ≠ (TA b).2.1 := by decide +kernel
theorem tyA_ok : ∀ k, k < 3 → parseFieldDescriptor (TA k).2.2.1 = some (tyA k) := by decide +kernel
theorem nmX : ∀ a, a < 5 → ∀ b, b < 5 → a ≠ b → (TX a).2.1 ≠ (TX b).2.1 := by decide +kernel
theorem tyX_ok : ∀ k, k < 5 → parseFieldDescriptor (TX k).2.2.1 = some (tyX k) := by decide +kernel
theorem nmB : ∀ a, a < 4 → ∀ b, b < 4 → a ≠ b → (TB a).2.1 ≠ (TB b).2.1 := by decide +kernel
theorem tyB_ok : ∀ k, k < 4 → parseFieldDescriptor (TB k).2.2.1 = some (tyB k) := by decide +kernel
theorem nmM : ∀ a, a < 8 → ∀ b, b < 8 → a ≠ b → (TM a).2.1 ≠ (TM b).2.1 := by decide +kernel
theorem tyM_ok : ∀ k, k < 8 → parseFieldDescriptor (TM k).2.2.1 = some (tyM k) := by decide +kernel
theorem in_A : ∀ w ∈ u_ws "java/util/ArrayList" TA 3, w ∈ big := by
  intro w hw
  have h : u_ws "java/util/ArrayList" TA 3 = [.lays "java/util/ArrayList" "java/util/AbstractList" "modCount" "I", .lays "java/util/ArrayList" "java/util/ArrayList" "elementData" "[Ljava/lang/Object;", .lays "java/util/ArrayList" "java/util/ArrayList" "size" "I"] := rfl
  rw [h] at hw
  simp only [List.mem_cons, List.not_mem_nil, or_false] at hw
  rcases hw with rfl | rfl | rfl
  · exact mw_56
  · exact mw_52
  · exact mw_54
theorem in_X : ∀ w ∈ u_ws "BoxDrawer$Box" TX 5, w ∈ big := by
  intro w hw
  have h : u_ws "BoxDrawer$Box" TX 5 = [.laysFinal "BoxDrawer$Box" "BoxDrawer$Box" "number" "I", .laysFinal "BoxDrawer$Box" "BoxDrawer$Box" "lowX" "I", .laysFinal "BoxDrawer$Box" "BoxDrawer$Box" "lowY" "I", .laysFinal "BoxDrawer$Box" "BoxDrawer$Box" "highX" "I", .laysFinal "BoxDrawer$Box" "BoxDrawer$Box" "highY" "I"] := rfl
  rw [h] at hw
  simp only [List.mem_cons, List.not_mem_nil, or_false] at hw
  rcases hw with rfl | rfl | rfl | rfl | rfl
  · exact mw_257
  · exact mw_259
  · exact mw_261
  · exact mw_263
  · exact mw_265
theorem in_B : ∀ w ∈ u_ws "BoxDrawer" TB 4, w ∈ big := by
  intro w hw
  have h : u_ws "BoxDrawer" TB 4 = [.laysFinal "BoxDrawer" "BoxDrawer" "boxes" "Ljava/util/ArrayList;", .lays "BoxDrawer" "BoxDrawer" "found" "[I", .lays "BoxDrawer" "BoxDrawer" "foundCount" "I", .lays "BoxDrawer" "BoxDrawer" "foundDistances" "[J"] := rfl
  rw [h] at hw
  simp only [List.mem_cons, List.not_mem_nil, or_false] at hw
  rcases hw with rfl | rfl | rfl | rfl
  · exact mw_63
  · exact mw_65
  · exact mw_67
  · exact mw_69
theorem in_M : ∀ w ∈ u_ws "BoxDrawerModel" TM 8, w ∈ big := by
  intro w hw
  have h : u_ws "BoxDrawerModel" TM 8 = [.lays "BoxDrawerModel" "BoxDrawerModel" "thrown" "I", .laysFinal "BoxDrawerModel" "BoxDrawerModel" "there" "[Z", .laysFinal "BoxDrawerModel" "BoxDrawerModel" "lowX" "[I", .laysFinal "BoxDrawerModel" "BoxDrawerModel" "lowY" "[I", .laysFinal "BoxDrawerModel" "BoxDrawerModel" "highX" "[I", .laysFinal "BoxDrawerModel" "BoxDrawerModel" "highY" "[I", .lays "BoxDrawerModel" "BoxDrawerModel" "size" "I", .laysFinal "BoxDrawerModel" "BoxDrawerModel" "result" "[I"] := rfl
  rw [h] at hw
  simp only [List.mem_cons, List.not_mem_nil, or_false] at hw
  rcases hw with rfl | rfl | rfl | rfl | rfl | rfl | rfl | rfl
  · exact mw_702
  · exact mw_704
  · exact mw_706
  · exact mw_708
  · exact mw_710
  · exact mw_712
  · exact mw_714
  · exact mw_716
/-- the numbers that every contract speaks of: the classes' numbers and slots; the array classes of int, long, boolean, Object; where the new cells begin; ArrayList's empty array; the Class object of Object[] -/
abbrev Gl : Type := va_G × (ClassId × ClassId × ClassId × ClassId) × Nat × Nat × Nat
abbrev gtys (G : Gl) : List (ClassId × FieldType) := [(G.2.1.1, .int), (G.2.1.2.1, .long), (G.2.1.2.2.1, .boolean), (G.2.1.2.2.2, .object "java/lang/Object")]
abbrev gA (G : Gl) : Nat → Prop := fun q => G.2.2.1 ≤ q
abbrev ge0 (G : Gl) : Nat := G.2.2.2.1
abbrev gmi (G : Gl) : Nat := G.2.2.2.2
def nbw : List Cond := [.castable "BoxDrawer$Box" "BoxDrawer$Box", .castable "BoxDrawer$Box" "java/lang/Object", .castable "java/lang/IndexOutOfBoundsException" "java/lang/IndexOutOfBoundsException", .castable "java/lang/IllegalArgumentException" "java/lang/IllegalArgumentException", .castable "java/lang/IllegalStateException" "java/lang/IllegalStateException",
  .declares ⟨"java/lang/RuntimeException", "<init>", "(Ljava/lang/String;)V"⟩, .declares ⟨"java/lang/Exception", "<init>", "(Ljava/lang/String;)V"⟩, .declares ⟨"java/lang/Throwable", "<init>", "(Ljava/lang/String;)V"⟩,
  .methodLinkNest "BoxDrawer" 114 y_X_meets "BoxDrawer", .methodLinkNest "BoxDrawer" 38 y_X_init "BoxDrawer", .methodLinkNest "BoxDrawer" 161 y_X_liesIn "BoxDrawer", .methodLinkNest "BoxDrawer" 106 y_X_distanceFrom "BoxDrawer", .methodLinkNest "BoxDrawer" 134 y_X_bound "BoxDrawer", .fieldLinkNest "BoxDrawer" 82 "BoxDrawer$Box" "number" "I" "BoxDrawer"]
theorem nb_on : ∀ w ∈ nbw, w.onTables = true := by decide +kernel
theorem nb_warm {s U : State} (hW : s.WarmedH U.vm) (h : ∀ w ∈ nbw, va_Nw w s) : ∀ w ∈ nbw, va_Nw w U := by
  intro w hw
  have h1 := h w hw
  simp only [nbw, List.mem_cons, List.not_mem_nil, or_false] at hw
  rcases hw with rfl | rfl | rfl | rfl | rfl | rfl | rfl | rfl | rfl | rfl | rfl | rfl | rfl | rfl
  · exact va_Nw.warmC hW h1
  · exact va_Nw.warmC hW h1
  · exact va_Nw.warmC hW h1
  · exact va_Nw.warmC hW h1
  · exact va_Nw.warmC hW h1
  · exact va_Nw.warmD hW h1
  · exact va_Nw.warmD hW h1
  · exact va_Nw.warmD hW h1
  · exact va_Nw.warmM hW h1
  · exact va_Nw.warmM hW h1
  · exact va_Nw.warmM hW h1
  · exact va_Nw.warmM hW h1
  · exact va_Nw.warmM hW h1
  · exact va_Nw.warmF hW h1
def strs : List (Nat × String) := [(149, "no such number of a box"), (155, "not from -1000000000 to 1000000000"), (151, "a greatest bound is below its least"), (70, "what is none of 0, 1, 2"), (88, "n is none of 1 .. 4096"), (159, "the box is not there"), (157, "what is none of 0 .. 3"), (131, "no boxes"), (146, "no such place in the result")]
abbrev eN : String := "DEFAULTCAPACITY_EMPTY_ELEMENTDATA"
/-- what the start says and the run keeps -/
def Ev (G : Gl) (U : State) : Prop := va_K G.1 kls (gtys G) U ∧ va_Z "java/util/ArrayList" eN "[Ljava/lang/Object;" (.ref (ge0 G)) (gA G) U U.heap ∧ va_T (.object "java/lang/Object") (ge0 G) 0 (fun _ => .null) (gA G) U U.heap ∧
  vx_Zq Bundle.tN "UNASSIGNED_STACK" Bundle.steD (gA G) U U.heap ∧ vx_Zq Bundle.tN "SUPPRESSED_SENTINEL" Bundle.listD (gA G) U U.heap ∧ (∀ q ∈ strs, ∃ sa : Nat, vk_R "BoxDrawer" q.1 q.2 sa U) ∧ (∀ w ∈ nbw, va_Nw w U) ∧
  va_AO "java/lang/Object" U ∧ va_Mi "[Ljava/lang/Object;" (gmi G) U ∧ va_Dc U ∧ va_Nc "java/lang/IllegalArgumentException" "java/lang/IndexOutOfBoundsException" U ∧ va_Nc "java/lang/IllegalStateException" "java/lang/IndexOutOfBoundsException" U ∧ G.2.2.1 ≤ U.heap.size
theorem Ev.moved {G : Gl} {s U : State} (hW : s.WarmedH U.vm) (hz : s.heap.size ≤ U.heap.size) (hq : ∀ q : Nat, q < s.heap.size → ¬ gA G q → U.heap[q]? = s.heap[q]?) (h : Ev G s) : Ev G U := by
  obtain ⟨h1, h2, h3, h4, h5, h6, h7, h8, h9, h10, h11, h12, h13⟩ := h
  have hal := hW.alike
  exact ⟨va_K.moved hal h1, (va_Z.moved hal h2).kept hq, (va_T.moved hal h3).kept hq, (vx_Zq.moved hal h4).kept hq, (vx_Zq.moved hal h5).kept hq, fun q hq1 => by
    obtain ⟨sa, hsa⟩ := h6 q hq1
    exact ⟨sa, vk_R.warm hW hsa⟩, nb_warm hW h7, va_AO.moved hal h8, va_Mi.moved hal h9, va_Dc.moved hal h10, va_Nc.moved hal h11, va_Nc.moved hal h12, Nat.le_trans h13 hz⟩
abbrev World : Type := Nat → Option va_E
abbrev Hw (G : Gl) (w : World) (H : Heap) : Prop := Hd G.1 kls (gA G) w H
def Wo (G : Gl) (w : World) (U : State) : Prop := Ev G U ∧ Hw G w U.heap
theorem Wo.blind {G : Gl} {w : World} {as : List Value} : FrameBlind (va_Pc as (Wo G w)) := by
  intro a U g mk h
  obtain ⟨h1, h2, h3⟩ := h
  exact ⟨h1, h2.moved (State.WarmedH.refl U) (Nat.le_refl _) (fun _ _ _ => rfl), h3⟩
/-- at a call -/
theorem Wo.at {G : Gl} {w : World} {s : State} {H : Heap} {locs : List Loc} (hE : Ev G s) (hH : Hw G w H) (hS : va_S (gA G) s.heap H locs) {U : State} (hU : U.heap = H) (hW : s.WarmedH U.vm) : Wo G w U :=
  ⟨hE.moved hW (by rw [hU]; exact hS.1) (fun q h1 h2 => by rw [hU]; exact hS.2.1 q h1 h2), by rw [hU]; exact hH⟩
abbrev rmK (k mc ms : Nat) : Room := { frames := k, cells := mc, slots := ms, locals := 40 * k }
/-- what a body has in hand -/
def Cx (G : Gl) (p : Program) (s : State) (m : MethodId) (args : Array Value) (c : Code) (cc : ByteArray) (nL : Nat) (own : String) (meth : Method) : Prop :=
  p.tables.exec = Jvm.exec ∧ c.code = cc ∧ c.maxLocals = nL ∧ s.vm.findClass own = some m.cls ∧ (∀ w ∈ big, w.before args s = true) ∧ Ev G s ∧ meth.locks = false
theorem good_big {w : Cond} (h : w ∈ big) : (w.onTables && w.keeps) = true ∨ ∃ ty, w = .arrayClass ty := good_of_word (big_good h)
theorem goodIn_big {x : Cond} (h : x ∈ big) : GoodIn big (x :: big) := fun w hw => by
  rcases List.mem_cons.mp hw with rfl | hw
  · exact ⟨h, good_big h⟩
  · exact ⟨hw, good_big hw⟩
/-- a method that only reads: its answer is r, the heap stays -/
def PuQ (r : Option Value) : Array Value → State → Outcome → State → Prop := fun _ st o t => o = .returned r ∧ t.heap = st.heap
abbrev PuM (l : Launch) (y : MethodName) (ws : List Cond) (k : Nat) (G : Gl) (w : World) (as : List Value) (r : Option Value) : Prop := Met l y ws (rmK k 0 0) (va_Pc as (Wo G w)) (PuQ r) 0 0 (fun _ => False)
abbrev GnI (l : Launch) (y : MethodName) (ws : List Cond) (k mc ms : Nat) (G : Gl) (w : World) (as : List Value) (post : Int32 → World → Prop) : Prop := Met l y ws (rmK k mc ms) (va_Pc as (Wo G w)) (va_Qi post (Wo G) (gA G)) mc ms (gA G)
abbrev GnV (l : Launch) (y : MethodName) (ws : List Cond) (k mc ms : Nat) (G : Gl) (w : World) (as : List Value) (post : World → Prop) : Prop := Met l y ws (rmK k mc ms) (va_Pc as (Wo G w)) (va_Qv post (Wo G) (gA G)) mc ms (gA G)
abbrev GnQ (l : Launch) (y : MethodName) (ws : List Cond) (k mc ms : Nat) (G : Gl) (w : World) (as : List Value) (post : Option Nat → World → Prop) : Prop := Met l y ws (rmK k mc ms) (va_Pc as (Wo G w)) (va_Qq post (Wo G) (gA G)) mc ms (gA G)
def XCt (E0 : String) : String → State → State → Prop := fun E st t => E = E0 ∧ st.heap.size ≤ t.heap.size ∧ ∀ q : Nat, q < st.heap.size → t.heap[q]? = st.heap[q]?
/-- a method that throws E0, from this start -/
abbrev ThM (l : Launch) (y : MethodName) (ws : List Cond) (k : Nat) (G : Gl) (w : World) (as : List Value) (E0 : String) : Prop := vx_Met l y ws (rmK k 1 6) (va_Pc as (Wo G w)) (fun _ _ _ _ => False) (XCt E0) 1 6 (fun _ => False)
section Entries
variable {l : Launch} {y : MethodName} {cc : ByteArray} {maxL : Nat} {ret : Option FieldType} {k mc ms : Nat} {G : Gl} {w : World} {as : List Value}
theorem met_ent {Qc : Array Value → State → Outcome → State → Prop} {free : Addr → Prop} (hy : plainFor y = true) (hlen : (lg_sl as).length ≤ maxL)
    (body : ∀ (p : Program) (e : Env) (s : State) (m : MethodId) (below : List Frame) (meth : Method) (c : Code) (ls : Array Slot), Cx G p s m as.toArray c cc maxL y.cls meth → meth.sig.returnType = ret → (y.name = "<init>" → meth.name = "<init>") → Hw G w s.heap → lv_has ls maxL (lv_args 0 as) →
      W p l e (rmK k mc ms) s m as.toArray below meth c s.heap [] 0 0 (MQ below Qc as.toArray s mc ms free) (F0 m 0 ls [])) :
    Met l y (.code y cc maxL ret :: big) (rmK k mc ms) (va_Pc as (Wo G w)) Qc mc ms free := by
  refine va_MetF (cc := cc) (maxL := maxL) (ret := ret) hy rfl ?_
  intro p e s m args below meth c s₁ B hml hv
  obtain ⟨rfl, hE, hH⟩ := hv
  have hts := atoms_spec (ws := .code y cc maxL ret :: big) B.pre
  have hl := lv_entry as hlen
  rw [lg_entry_eq]
  exact body p e s m below meth c _ ⟨B.exec, B.bytes, hml, findClass_of_methodNamed B.named, fun w hw => hts w (List.mem_cons_of_mem _ hw), hE, B.notSynchronized⟩ B.returns (fun hn => by rw [(name_of_methodNamed B.named B.method).1]; exact hn) hH hl
theorem th_ent {E0 : String} (hy : plainName y.cls = true) (hlen : (lg_sl as).length ≤ maxL)
    (body : ∀ (p : Program) (e : Env) (s : State) (m : MethodId) (below : List Frame) (meth : Method) (c : Code) (ls : Array Slot), Cx G p s m as.toArray c cc maxL y.cls meth → (∀ x ∈ c.exceptionTable.toList, False) → Hw G w s.heap → lv_has ls maxL (lv_args 0 as) →
      W p l e (rmK k 1 6) s m as.toArray below meth c s.heap [] 0 0 (vx_MQ below (fun _ _ _ _ => False) (XCt E0) as.toArray s 1 6 (fun _ => False)) (F0 m 0 ls [])) :
    ThM l y (.code y cc maxL ret :: big) k G w as E0 := by
  refine vx_ofW (cc := cc) (maxL := maxL) (ret := ret) hy rfl ?_
  intro p e s m args below meth c s₁ B hml ht hv
  obtain ⟨rfl, hE, hH⟩ := hv
  have hts := atoms_spec (ws := .code y cc maxL ret :: big) B.pre
  have hl := lv_entry as hlen
  rw [lg_entry_eq]
  exact body p e s m below meth c _ ⟨B.exec, B.bytes, hml, findClass_of_methodNamed B.named, fun w hw => hts w (List.mem_cons_of_mem _ hw), hE, B.notSynchronized⟩ ht hH hl
end Entries
section CoreRows
variable {p : Program} {l : Launch} {e : Env} {R : Room} {s : State} {m : MethodId} {args : Array Value} {below : List Frame} {meth : Method} {c : Code} {H : Heap} {locs : List Loc} {cells slots : Nat} {Q : State → Prop}
variable {G : Gl} {w : World} {cc bytes : ByteArray} {nL maxL index n k mc ms : Nat} {own C host : String} {y : MethodName} {ret : Option FieldType} {ws : List Cond} {As rest st0 : List Value} {b : Nat} {pc : Nat} {ls : Array Slot} {r : Option Value}
theorem Cx.fix (C0 : Cx G p s m args c cc nL own meth) : CallFix p m c cc nL s args big own := ⟨C0.1, C0.2.1, C0.2.2.1, C0.2.2.2.1, C0.2.2.2.2.1⟩
theorem Cx.ev (C0 : Cx G p s m args c cc nL own meth) : Ev G s := C0.2.2.2.2.2.1
theorem Cx.hK (C0 : Cx G p s m args c cc nL own meth) : va_K G.1 kls (gtys G) s := C0.ev.1
theorem pu_goon {as0 : Array Value} (hr : va_Run p l e R s m args below meth c H locs cells slots 0 0 (F0 m pc ls st0) rest (PuQ r as0) (fun _ => False))
    (kk : W p l e R s m args below meth c H locs cells slots Q (F0 m (pc + 3) ls (r.toList ++ rest))) : W p l e R s m args below meth c H locs cells slots Q (F0 m pc ls st0) := by
  intro T hT X
  obtain ⟨v, st₀, t, T', L, h0, X', hL, e1, e2, ⟨hv, hh⟩, st⟩ := hr T hT X
  cases hv
  have hn : L = [] := List.eq_nil_iff_forall_not_mem.mpr (fun q hq => hL q hq)
  subst hn
  rw [List.append_nil] at X'
  obtain ⟨t2, a1, b1⟩ := kk T' (by rw [e1, hh, h0]) X'
  exact ⟨t2, st t2 a1, b1⟩
theorem gn_i {as0 : Array Value} {post : Int32 → World → Prop} (hr : va_Run p l e R s m args below meth c H locs cells slots mc ms (F0 m pc ls st0) rest (va_Qi post (Wo G) (gA G) as0) (gA G)) (hS : va_S (gA G) s.heap H locs)
    (kk : ∀ (r : Int32) (w' : World) (H1 : Heap) (locs1 : List Loc), post r w' → Hw G w' H1 → va_S (gA G) s.heap H1 locs1 → W p l e R s m args below meth c H1 locs1 (cells + mc) (slots + ms) Q (F0 m (pc + 3) ls (.int r :: rest))) : W p l e R s m args below meth c H locs cells slots Q (F0 m pc ls st0) :=
  va_calli hr hS (fun _ _ h => h) (fun _ h => h) (fun r u t H1 locs1 ht _ hp hB _ _ hS1 => kk r u H1 locs1 hp (by rw [← ht]; exact hB.2) hS1)
theorem gn_v {as0 : Array Value} {post : World → Prop} (hr : va_Run p l e R s m args below meth c H locs cells slots mc ms (F0 m pc ls st0) rest (va_Qv post (Wo G) (gA G) as0) (gA G)) (hS : va_S (gA G) s.heap H locs)
    (kk : ∀ (w' : World) (H1 : Heap) (locs1 : List Loc), post w' → Hw G w' H1 → va_S (gA G) s.heap H1 locs1 → W p l e R s m args below meth c H1 locs1 (cells + mc) (slots + ms) Q (F0 m (pc + 3) ls rest)) : W p l e R s m args below meth c H locs cells slots Q (F0 m pc ls st0) :=
  va_callv hr hS (fun _ _ h => h) (fun _ h => h) (fun u t H1 locs1 ht _ hp hB _ _ hS1 => kk u H1 locs1 hp (by rw [← ht]; exact hB.2) hS1)
theorem gn_q {as0 : Array Value} {post : Option Nat → World → Prop} (hr : va_Run p l e R s m args below meth c H locs cells slots mc ms (F0 m pc ls st0) rest (va_Qq post (Wo G) (gA G) as0) (gA G)) (hS : va_S (gA G) s.heap H locs)
    (kk : ∀ (r : Option Nat) (w' : World) (H1 : Heap) (locs1 : List Loc), post r w' → Hw G w' H1 → va_S (gA G) s.heap H1 locs1 → W p l e R s m args below meth c H1 locs1 (cells + mc) (slots + ms) Q (F0 m (pc + 3) ls (va_rf r :: rest))) : W p l e R s m args below meth c H locs cells slots Q (F0 m pc ls st0) :=
  va_callq hr hS (fun _ _ h => h) (fun _ h => h) (fun r u t H1 locs1 ht _ hp hB _ _ hS1 => kk r u H1 locs1 hp (by rw [← ht]; exact hB.2) hS1)
variable {Qc : Array Value → State → Outcome → State → Prop} {free : Addr → Prop}
theorem runV (C0 : Cx G p s m args c cc nL own meth) (hM : Met l y ws (rmK k mc ms) (va_Pc (.ref b :: As) (Wo G w)) Qc mc ms free) (cw : CallW R s args own C index y bytes maxL ret ws (rmK k mc ms) mc ms n) (hH : Hw G w H) (hS : va_S (gA G) s.heap H locs)
    (hr : ∃ cellB : Cell, H[b]? = some cellB ∧ cellB.vm.isStatics = false ∧ s.vm.findClass C = some cellB.cls) (hn : As.length = n) (hsize : ls.size = nL) (hstack : st0 = As.reverse ++ .ref b :: rest) (hW : 2 * (F0 m pc ls st0).monitorRoom + (rest.map fun v => v.category).sum ≤ 8) (hdg : decode cc pc = .ok (.invokevirtual index, 3)) (hf : cells + mc ≤ R.cells ∧ slots + ms ≤ R.slots) :
    va_Run p l e R s m args below meth c H locs cells slots mc ms (F0 m pc ls st0) rest (Qc (.ref b :: As).toArray) free :=
  va_runV C0.fix hM cw ⟨Wo.blind, hr, fun U hU hWU => ⟨rfl, Wo.at C0.ev hH hS hU hWU⟩⟩ rfl hn hsize hstack hW hdg hf
theorem runS (C0 : Cx G p s m args c cc nL own meth) (hM : Met l y ws (rmK k mc ms) (va_Pc As (Wo G w)) Qc mc ms free) (cw : CallB R s args own index y bytes maxL ret ws (rmK k mc ms) mc ms n ∧ (Cond.static y).before args s = true) (hH : Hw G w H) (hS : va_S (gA G) s.heap H locs)
    (hn : As.length = n) (hsize : ls.size = nL) (hstack : st0 = As.reverse ++ rest) (hW : 2 * (F0 m pc ls st0).monitorRoom + (rest.map fun v => v.category).sum ≤ 8) (hdg : decode cc pc = .ok (.invokestatic index, 3)) (hf : cells + mc ≤ R.cells ∧ slots + ms ≤ R.slots) :
    va_Run p l e R s m args below meth c H locs cells slots mc ms (F0 m pc ls st0) rest (Qc As.toArray) free :=
  va_runS C0.fix hM cw ⟨Wo.blind, fun U hU hWU => ⟨rfl, Wo.at C0.ev hH hS hU hWU⟩⟩ rfl hn hsize hstack hW hdg hf
theorem runI (C0 : Cx G p s m args c cc nL own meth) (hM : Met l y ws (rmK k mc ms) (va_Pc (.ref b :: As) (Wo G w)) Qc mc ms free) (cw : CallB R s args own index y bytes maxL none ws (rmK k mc ms) mc ms n ∧ y.name = "<init>" ∧ (Cond.instanceMethod y).before args s = true) (hH : Hw G w H) (hS : va_S (gA G) s.heap H locs)
    (hn : As.length = n) (hsize : ls.size = nL) (hstack : st0 = As.reverse ++ .ref b :: rest) (hW : 2 * (F0 m pc ls st0).monitorRoom + (rest.map fun v => v.category).sum ≤ 8) (hdg : decode cc pc = .ok (.invokespecial index, 3)) (hf : cells + mc ≤ R.cells ∧ slots + ms ≤ R.slots) :
    va_Run p l e R s m args below meth c H locs cells slots mc ms (F0 m pc ls st0) rest (Qc (.ref b :: As).toArray) free :=
  va_runI C0.fix hM cw ⟨Wo.blind, fun U hU hWU => ⟨rfl, Wo.at C0.ev hH hS hU hWU⟩⟩ rfl hn hsize hstack hW hdg hf
theorem runVN (C0 : Cx G p s m args c cc nL own meth) (hM : Met l y ws (rmK k mc ms) (va_Pc (.ref b :: As) (Wo G w)) Qc mc ms free) (cw : va_CN R s args own index y host bytes maxL ret ws (rmK k mc ms) mc ms n ∧ (Cond.instanceMethod y).before args s = true ∧ (Cond.selects C y y).before args s = true) (hH : Hw G w H) (hS : va_S (gA G) s.heap H locs)
    (hr : ∃ cellB : Cell, H[b]? = some cellB ∧ cellB.vm.isStatics = false ∧ s.vm.findClass C = some cellB.cls) (hn : As.length = n) (hsize : ls.size = nL) (hstack : st0 = As.reverse ++ .ref b :: rest) (hW : 2 * (F0 m pc ls st0).monitorRoom + (rest.map fun v => v.category).sum ≤ 8) (hdg : decode cc pc = .ok (.invokevirtual index, 3)) (hf : cells + mc ≤ R.cells ∧ slots + ms ≤ R.slots) :
    va_Run p l e R s m args below meth c H locs cells slots mc ms (F0 m pc ls st0) rest (Qc (.ref b :: As).toArray) free :=
  va_runVN C0.fix hM cw ⟨Wo.blind, hr, fun U hU hWU => ⟨rfl, Wo.at C0.ev hH hS hU hWU⟩⟩ rfl hn hsize hstack hW hdg hf
theorem runIN (C0 : Cx G p s m args c cc nL own meth) (hM : Met l y ws (rmK k mc ms) (va_Pc (.ref b :: As) (Wo G w)) Qc mc ms free) (cw : va_CN R s args own index y host bytes maxL none ws (rmK k mc ms) mc ms n ∧ y.name = "<init>" ∧ (Cond.instanceMethod y).before args s = true) (hH : Hw G w H) (hS : va_S (gA G) s.heap H locs)
    (hn : As.length = n) (hsize : ls.size = nL) (hstack : st0 = As.reverse ++ .ref b :: rest) (hW : 2 * (F0 m pc ls st0).monitorRoom + (rest.map fun v => v.category).sum ≤ 8) (hdg : decode cc pc = .ok (.invokespecial index, 3)) (hf : cells + mc ≤ R.cells ∧ slots + ms ≤ R.slots) :
    va_Run p l e R s m args below meth c H locs cells slots mc ms (F0 m pc ls st0) rest (Qc (.ref b :: As).toArray) free :=
  va_runIN C0.fix hM cw ⟨Wo.blind, fun U hU hWU => ⟨rfl, Wo.at C0.ev hH hS hU hWU⟩⟩ rfl hn hsize hstack hW hdg hf
theorem cB (C0 : Cx G p s m args c cc nL own meth) (h1 : Cond.code y bytes maxL ret ∈ big) (h2 : Cond.methodLink own index y ∈ big) (h5 : Cond.initialized y.cls ∈ big)
    (hd : y.cls ≠ "java/lang/invoke/MethodHandle" ∧ y.cls ≠ "java/lang/invoke/VarHandle" ∧ (parseMethodDescriptor y.desc).map (fun d => d.parameters.length) = some n) (hR : k + 1 ≤ R.frames ∧ 8 + (maxL + 11) + 40 * k ≤ R.locals) :
    CallB R s args own index y bytes maxL ret (.code y bytes maxL ret :: big) (rmK k mc ms) mc ms n :=
  callB_of n C0.2.2.2.2.1 (goodIn_big h1) rfl rfl rfl (C0.2.2.2.2.1 _ h5) (C0.2.2.2.2.1 _ h2) hd hR
theorem cN (C0 : Cx G p s m args c cc nL own meth) (h1 : Cond.code y bytes maxL ret ∈ big) (h2 : Cond.methodLinkNest own index y host ∈ nbw) (h5 : Cond.initialized y.cls ∈ big)
    (hd : y.cls ≠ "java/lang/invoke/MethodHandle" ∧ y.cls ≠ "java/lang/invoke/VarHandle" ∧ (parseMethodDescriptor y.desc).map (fun d => d.parameters.length) = some n) (hR : k + 1 ≤ R.frames ∧ 8 + (maxL + 11) + 40 * k ≤ R.locals) :
    va_CN R s args own index y host bytes maxL ret (.code y bytes maxL ret :: big) (rmK k mc ms) mc ms n :=
  va_cnB n C0.2.2.2.2.1 (goodIn_big h1) rfl rfl rfl (C0.ev.2.2.2.2.2.2.1 _ h2) (C0.2.2.2.2.1 _ h5) hd hR
/-- a call that throws -/
theorem th_goon {E0 : String} (hr : vx_Run p l e R s m args below meth c H locs cells slots 1 6 (F0 m pc ls st0) rest (fun _ _ _ => False) (XCt E0) (fun _ => False))
    (kx : ∀ (H1 : Heap) (q9 : Addr) (ce : Cell), H1[q9]? = some ce → ce.vm = .none → s.vm.findClass E0 = some ce.cls → H.size ≤ H1.size → (∀ q : Nat, q < H.size → H1[q]? = H[q]?) → vx_W p l e R s m args below meth c H1 locs (cells + 1) (slots + 6) Q (F0 m pc ls rest) q9) : W p l e R s m args below meth c H locs cells slots Q (F0 m pc ls st0) := by
  intro T hT X
  rcases hr T hT X with ⟨v, st₀, t, T', L, h0, X', hL, e1, e2, hf, st⟩ | ⟨q, st₀, t, T', L, E, ce, h0, X', hL, e1, e2, ⟨rfl, hz, hk⟩, hce, hcv, hcl, st⟩
  · exact hf.elim
  · have hn : L = [] := List.eq_nil_iff_forall_not_mem.mpr (fun q hq => hL q hq)
    subst hn
    rw [List.append_nil] at X'
    rw [h0] at hz hk
    obtain ⟨t2, a1, b1⟩ := kx T'.heap q ce (by rw [e1]; exact hce) hcv hcl (by rw [e1]; exact hz) (fun q h => by rw [e1]; exact hk q h) T' rfl X'
    exact ⟨t2, st.trans a1, b1⟩
/-- .. out of a method that has done nothing yet -/
theorem th_out {E0 : String} (ht : ∀ x ∈ c.exceptionTable.toList, False) (hlocks : meth.locks = false) (hr : vx_Run p l e R s m args below meth c s.heap [] 0 0 1 6 (F0 m pc ls st0) rest (fun _ _ _ => False) (XCt E0) (fun _ => False)) :
    W p l e R s m args below meth c s.heap [] 0 0 (vx_MQ below (fun _ _ _ _ => False) (XCt E0) args s 1 6 (fun _ => False)) (F0 m pc ls st0) :=
  th_goon hr (fun H1 q9 ce h1 h2 h3 h4 h5 => vx_out (fun x hx => (ht x hx).elim) hlocks h1 h2 h3 (fun t ht _ => ⟨rfl, by rw [ht]; exact h4, fun q hq => by rw [ht]; exact h5 q hq⟩) (fun _ h => by cases h) (by omega) (by omega))
theorem xrunS {E0 : String} (C0 : Cx G p s m args c cc nL own meth) (hM : ThM l y ws k G w As E0) (cw : CallB R s args own index y bytes maxL ret ws (rmK k 1 6) 1 6 n ∧ (Cond.static y).before args s = true) (hH : Hw G w H) (hS : va_S (gA G) s.heap H locs)
    (hn : As.length = n) (hsize : ls.size = nL) (hstack : st0 = As.reverse ++ rest) (hW : 2 * (F0 m pc ls st0).monitorRoom + (rest.map fun v => v.category).sum ≤ 8) (hdg : decode cc pc = .ok (.invokestatic index, 3)) (hf : cells + 1 ≤ R.cells ∧ slots + 6 ≤ R.slots) :
    vx_Run p l e R s m args below meth c H locs cells slots 1 6 (F0 m pc ls st0) rest (fun _ _ _ => False) (XCt E0) (fun _ => False) :=
  vx_runS C0.fix hM cw ⟨Wo.blind, fun U hU hWU => ⟨rfl, Wo.at C0.ev hH hS hU hWU⟩⟩ rfl hn hsize hstack hW hdg hf
theorem xrunV {E0 : String} (C0 : Cx G p s m args c cc nL own meth) (hM : ThM l y ws k G w (.ref b :: As) E0) (cw : CallW R s args own C index y bytes maxL ret ws (rmK k 1 6) 1 6 n) (hH : Hw G w H) (hS : va_S (gA G) s.heap H locs)
    (hr : ∃ cellB : Cell, H[b]? = some cellB ∧ cellB.vm.isStatics = false ∧ s.vm.findClass C = some cellB.cls) (hn : As.length = n) (hsize : ls.size = nL) (hstack : st0 = As.reverse ++ .ref b :: rest) (hW : 2 * (F0 m pc ls st0).monitorRoom + (rest.map fun v => v.category).sum ≤ 8) (hdg : decode cc pc = .ok (.invokevirtual index, 3)) (hf : cells + 1 ≤ R.cells ∧ slots + 6 ≤ R.slots) :
    vx_Run p l e R s m args below meth c H locs cells slots 1 6 (F0 m pc ls st0) rest (fun _ _ _ => False) (XCt E0) (fun _ => False) :=
  vx_runV C0.fix hM cw ⟨Wo.blind, hr, fun U hU hWU => ⟨rfl, Wo.at C0.ev hH hS hU hWU⟩⟩ rfl hn hsize hstack hW hdg hf
/-- throw new E("..") in BoxDrawer, nothing done yet -/
theorem th_throw {E0 text : String} {ik is ic : Nat} (hl : l.stackTraces = false) (C0 : Cx G p s m args c cc nL "BoxDrawer" meth) (hcls : Bundle.fit E0 = true) (h1 : Cond.classLink "BoxDrawer" ik E0 ∈ big) (h2 : Cond.initialized E0 ∈ big)
    (hat : ∀ w ∈ vx_atS "BoxDrawer" ic E0 ["java/lang/RuntimeException", "java/lang/Exception"], w ∈ big ∨ w ∈ nbw) (hgood : ∀ w ∈ Cond.classLink "BoxDrawer" ik E0 :: Cond.initialized E0 :: vx_atS "BoxDrawer" ic E0 ["java/lang/RuntimeException", "java/lang/Exception"], vx_ot w = true)
    (hst : (is, text) ∈ strs) (hsize : ls.size = nL)
    (d0 : decode cc pc = .ok (.new ik, 3)) (d3 : decode cc (pc + 3) = .ok (.dup, 1)) (d4 : decode cc (pc + 4) = .ok (.ldc is, 2)) (d6 : decode cc (pc + 6) = .ok (.invokespecial ic, 3)) (d9 : decode cc (pc + 9) = .ok (.athrow, 1))
    (ht : ∀ x ∈ c.exceptionTable.toList, False) (hk : 6 ≤ k) :
    W p l e (rmK k 1 6) s m args below meth c s.heap [] 0 0 (vx_MQ below (fun _ _ _ _ => False) (XCt E0) args s 1 6 (fun _ => False)) (F0 m pc ls []) := by
  obtain ⟨hx, hb, hml, hown, hts, hE, hlocks⟩ := C0
  obtain ⟨-, -, -, h4, h5, h6, h7, -⟩ := hE
  obtain ⟨sa, hsa⟩ := h6 _ hst
  refine vx_throwS (own := "BoxDrawer") (names := ["java/lang/RuntimeException", "java/lang/Exception"]) (sa := sa) (A := gA G) hx hb hl hown hcls (by decide +kernel) (hts _ h1) (hts _ h2) hsa (fun w hw => ?_) hgood h4 h5 va_S.rf (hsize.trans hml.symm) d0 d3 d4 d6 d9 (fun x hx => (ht x hx).elim) ?_ ?_ (Nat.le_refl _) (Nat.le_refl _) hlocks (fun t _ hz hq => ⟨rfl, hz, hq⟩) (fun _ h => by cases h) (Nat.le_refl _) (Nat.le_refl _)
  · rcases hat w hw with h | h
    · exact hts w h
    · exact va_Nw.use (nb_on w h) (h7 w h)
  · show 2 + 3 < k
    omega
  · show 0 + (13 * (2 + 1) + 43) ≤ 40 * k
    omega
end CoreRows
end
section
/-! a row a field link, a row a call link: by program -/
section Sites
variable {p : Program} {l : Launch} {e : Env} {R : Room} {s : State} {m : MethodId} {args : Array Value} {below : List Frame} {meth : Method} {c : Code} {H : Heap} {locs : List Loc} {cells slots : Nat} {Q : State → Prop}
variable {G : Gl} {w : World} {cc : ByteArray} {nL pc a k mc ms : Nat} {ls : Array Slot} {rest : List Value} {fs : List Value} {v : Value}
theorem gf_B_10 (C0 : Cx G p s m args c cc nL "BoxDrawer" meth) (hH : Hw G w H) (he : w a = some (.inr (2, fs))) (hv : fs[0]? = some v) (hdg : decode cc pc = .ok (.getfield 10, 3)) (kk : W p l e R s m args below meth c H locs cells slots Q (F0 m (pc + 3) ls (v :: rest))) : W p l e R s m args below meth c H locs cells slots Q (F0 m pc ls (.ref a :: rest)) :=
  hd_get C0.1 C0.2.1 C0.2.2.2.2.1 in_B C0.2.2.2.1 C0.hK hH he rfl 0 (by decide) (C0.2.2.2.2.1 _ mw_59) (fun _ h => h) hv hdg kk
theorem gf_B_16 (C0 : Cx G p s m args c cc nL "BoxDrawer" meth) (hH : Hw G w H) (he : w a = some (.inr (2, fs))) (hv : fs[1]? = some v) (hdg : decode cc pc = .ok (.getfield 16, 3)) (kk : W p l e R s m args below meth c H locs cells slots Q (F0 m (pc + 3) ls (v :: rest))) : W p l e R s m args below meth c H locs cells slots Q (F0 m pc ls (.ref a :: rest)) :=
  hd_get C0.1 C0.2.1 C0.2.2.2.2.1 in_B C0.2.2.2.1 C0.hK hH he rfl 1 (by decide) (C0.2.2.2.2.1 _ mw_60) (fun _ h => h) hv hdg kk
theorem gf_B_20 (C0 : Cx G p s m args c cc nL "BoxDrawer" meth) (hH : Hw G w H) (he : w a = some (.inr (2, fs))) (hv : fs[2]? = some v) (hdg : decode cc pc = .ok (.getfield 20, 3)) (kk : W p l e R s m args below meth c H locs cells slots Q (F0 m (pc + 3) ls (v :: rest))) : W p l e R s m args below meth c H locs cells slots Q (F0 m pc ls (.ref a :: rest)) :=
  hd_get C0.1 C0.2.1 C0.2.2.2.2.1 in_B C0.2.2.2.1 C0.hK hH he rfl 2 (by decide) (C0.2.2.2.2.1 _ mw_61) (fun _ h => h) hv hdg kk
theorem gf_B_24 (C0 : Cx G p s m args c cc nL "BoxDrawer" meth) (hH : Hw G w H) (he : w a = some (.inr (2, fs))) (hv : fs[3]? = some v) (hdg : decode cc pc = .ok (.getfield 24, 3)) (kk : W p l e R s m args below meth c H locs cells slots Q (F0 m (pc + 3) ls (v :: rest))) : W p l e R s m args below meth c H locs cells slots Q (F0 m pc ls (.ref a :: rest)) :=
  hd_get C0.1 C0.2.1 C0.2.2.2.2.1 in_B C0.2.2.2.1 C0.hK hH he rfl 3 (by decide) (C0.2.2.2.2.1 _ mw_62) (fun _ h => h) hv hdg kk
theorem gf_B_82 (C0 : Cx G p s m args c cc nL "BoxDrawer" meth) (hH : Hw G w H) (he : w a = some (.inr (1, fs))) (hv : fs[0]? = some v) (hdg : decode cc pc = .ok (.getfield 82, 3)) (kk : W p l e R s m args below meth c H locs cells slots Q (F0 m (pc + 3) ls (v :: rest))) : W p l e R s m args below meth c H locs cells slots Q (F0 m pc ls (.ref a :: rest)) :=
  hd_getN C0.1 C0.2.1 C0.2.2.2.2.1 in_X C0.2.2.2.1 C0.hK hH he rfl 0 (by decide) (va_Nw.use rfl (C0.ev.2.2.2.2.2.2.1 (Cond.fieldLinkNest "BoxDrawer" 82 "BoxDrawer$Box" "number" "I" "BoxDrawer") (by decide +kernel))) (fun _ h => h) hv hdg kk
theorem pf_B_10 (C0 : Cx G p s m args c cc nL "BoxDrawer" meth) (hin : meth.name = "<init>") (hH : Hw G w H) (hS : va_S (gA G) s.heap H locs) (he : w a = some (.inr (2, fs))) (hn : narrow (tyB 0) v = v) (hft : fits (tyB 0) v = true) (hl : 0 < fs.length) (hdg : decode cc pc = .ok (.putfield 10, 3)) (kk : ∀ (H1 : Heap) (locs1 : List Loc), Hw G (va_up w a (some (.inr (2, fs.set 0 v)))) H1 → va_S (gA G) s.heap H1 locs1 → W p l e R s m args below meth c H1 locs1 cells slots Q (F0 m (pc + 3) ls rest)) : W p l e R s m args below meth c H locs cells slots Q (F0 m pc ls (v :: .ref a :: rest)) :=
  hd_putF C0.1 C0.2.1 C0.2.2.2.2.1 in_B tyB tyB_ok nmB C0.2.2.2.1 C0.hK hH hS he rfl 0 (by decide) (C0.2.2.2.2.1 _ mw_59) (fun _ h => h) rfl hin rfl (tyB_ok 0 (by decide)) hn hft hl hdg kk
theorem pf_B_16 (C0 : Cx G p s m args c cc nL "BoxDrawer" meth) (hH : Hw G w H) (hS : va_S (gA G) s.heap H locs) (he : w a = some (.inr (2, fs))) (hn : narrow (tyB 1) v = v) (hft : fits (tyB 1) v = true) (hl : 1 < fs.length) (hdg : decode cc pc = .ok (.putfield 16, 3)) (kk : ∀ (H1 : Heap) (locs1 : List Loc), Hw G (va_up w a (some (.inr (2, fs.set 1 v)))) H1 → va_S (gA G) s.heap H1 locs1 → W p l e R s m args below meth c H1 locs1 cells slots Q (F0 m (pc + 3) ls rest)) : W p l e R s m args below meth c H locs cells slots Q (F0 m pc ls (v :: .ref a :: rest)) :=
  hd_put C0.1 C0.2.1 C0.2.2.2.2.1 in_B tyB tyB_ok nmB C0.2.2.2.1 C0.hK hH hS he rfl 1 (by decide) (C0.2.2.2.2.1 _ mw_60) (fun _ h => h) rfl (tyB_ok 1 (by decide)) hn hft hl hdg kk
theorem pf_B_20 (C0 : Cx G p s m args c cc nL "BoxDrawer" meth) (hH : Hw G w H) (hS : va_S (gA G) s.heap H locs) (he : w a = some (.inr (2, fs))) (hn : narrow (tyB 2) v = v) (hft : fits (tyB 2) v = true) (hl : 2 < fs.length) (hdg : decode cc pc = .ok (.putfield 20, 3)) (kk : ∀ (H1 : Heap) (locs1 : List Loc), Hw G (va_up w a (some (.inr (2, fs.set 2 v)))) H1 → va_S (gA G) s.heap H1 locs1 → W p l e R s m args below meth c H1 locs1 cells slots Q (F0 m (pc + 3) ls rest)) : W p l e R s m args below meth c H locs cells slots Q (F0 m pc ls (v :: .ref a :: rest)) :=
  hd_put C0.1 C0.2.1 C0.2.2.2.2.1 in_B tyB tyB_ok nmB C0.2.2.2.1 C0.hK hH hS he rfl 2 (by decide) (C0.2.2.2.2.1 _ mw_61) (fun _ h => h) rfl (tyB_ok 2 (by decide)) hn hft hl hdg kk
theorem pf_B_24 (C0 : Cx G p s m args c cc nL "BoxDrawer" meth) (hH : Hw G w H) (hS : va_S (gA G) s.heap H locs) (he : w a = some (.inr (2, fs))) (hn : narrow (tyB 3) v = v) (hft : fits (tyB 3) v = true) (hl : 3 < fs.length) (hdg : decode cc pc = .ok (.putfield 24, 3)) (kk : ∀ (H1 : Heap) (locs1 : List Loc), Hw G (va_up w a (some (.inr (2, fs.set 3 v)))) H1 → va_S (gA G) s.heap H1 locs1 → W p l e R s m args below meth c H1 locs1 cells slots Q (F0 m (pc + 3) ls rest)) : W p l e R s m args below meth c H locs cells slots Q (F0 m pc ls (v :: .ref a :: rest)) :=
  hd_put C0.1 C0.2.1 C0.2.2.2.2.1 in_B tyB tyB_ok nmB C0.2.2.2.1 C0.hK hH hS he rfl 3 (by decide) (C0.2.2.2.2.1 _ mw_62) (fun _ h => h) rfl (tyB_ok 3 (by decide)) hn hft hl hdg kk
theorem gf_X_15 (C0 : Cx G p s m args c cc nL "BoxDrawer$Box" meth) (hH : Hw G w H) (he : w a = some (.inr (1, fs))) (hv : fs[1]? = some v) (hdg : decode cc pc = .ok (.getfield 15, 3)) (kk : W p l e R s m args below meth c H locs cells slots Q (F0 m (pc + 3) ls (v :: rest))) : W p l e R s m args below meth c H locs cells slots Q (F0 m pc ls (.ref a :: rest)) :=
  hd_get C0.1 C0.2.1 C0.2.2.2.2.1 in_X C0.2.2.2.1 C0.hK hH he rfl 1 (by decide) (C0.2.2.2.2.1 _ mw_253) (fun _ h => h) hv hdg kk
theorem gf_X_18 (C0 : Cx G p s m args c cc nL "BoxDrawer$Box" meth) (hH : Hw G w H) (he : w a = some (.inr (1, fs))) (hv : fs[2]? = some v) (hdg : decode cc pc = .ok (.getfield 18, 3)) (kk : W p l e R s m args below meth c H locs cells slots Q (F0 m (pc + 3) ls (v :: rest))) : W p l e R s m args below meth c H locs cells slots Q (F0 m pc ls (.ref a :: rest)) :=
  hd_get C0.1 C0.2.1 C0.2.2.2.2.1 in_X C0.2.2.2.1 C0.hK hH he rfl 2 (by decide) (C0.2.2.2.2.1 _ mw_254) (fun _ h => h) hv hdg kk
theorem gf_X_21 (C0 : Cx G p s m args c cc nL "BoxDrawer$Box" meth) (hH : Hw G w H) (he : w a = some (.inr (1, fs))) (hv : fs[3]? = some v) (hdg : decode cc pc = .ok (.getfield 21, 3)) (kk : W p l e R s m args below meth c H locs cells slots Q (F0 m (pc + 3) ls (v :: rest))) : W p l e R s m args below meth c H locs cells slots Q (F0 m pc ls (.ref a :: rest)) :=
  hd_get C0.1 C0.2.1 C0.2.2.2.2.1 in_X C0.2.2.2.1 C0.hK hH he rfl 3 (by decide) (C0.2.2.2.2.1 _ mw_255) (fun _ h => h) hv hdg kk
theorem gf_X_24 (C0 : Cx G p s m args c cc nL "BoxDrawer$Box" meth) (hH : Hw G w H) (he : w a = some (.inr (1, fs))) (hv : fs[4]? = some v) (hdg : decode cc pc = .ok (.getfield 24, 3)) (kk : W p l e R s m args below meth c H locs cells slots Q (F0 m (pc + 3) ls (v :: rest))) : W p l e R s m args below meth c H locs cells slots Q (F0 m pc ls (.ref a :: rest)) :=
  hd_get C0.1 C0.2.1 C0.2.2.2.2.1 in_X C0.2.2.2.1 C0.hK hH he rfl 4 (by decide) (C0.2.2.2.2.1 _ mw_256) (fun _ h => h) hv hdg kk
theorem pf_X_9 (C0 : Cx G p s m args c cc nL "BoxDrawer$Box" meth) (hin : meth.name = "<init>") (hH : Hw G w H) (hS : va_S (gA G) s.heap H locs) (he : w a = some (.inr (1, fs))) (hn : narrow (tyX 0) v = v) (hft : fits (tyX 0) v = true) (hl : 0 < fs.length) (hdg : decode cc pc = .ok (.putfield 9, 3)) (kk : ∀ (H1 : Heap) (locs1 : List Loc), Hw G (va_up w a (some (.inr (1, fs.set 0 v)))) H1 → va_S (gA G) s.heap H1 locs1 → W p l e R s m args below meth c H1 locs1 cells slots Q (F0 m (pc + 3) ls rest)) : W p l e R s m args below meth c H locs cells slots Q (F0 m pc ls (v :: .ref a :: rest)) :=
  hd_putF C0.1 C0.2.1 C0.2.2.2.2.1 in_X tyX tyX_ok nmX C0.2.2.2.1 C0.hK hH hS he rfl 0 (by decide) (C0.2.2.2.2.1 _ mw_251) (fun _ h => h) rfl hin rfl (tyX_ok 0 (by decide)) hn hft hl hdg kk
theorem pf_X_15 (C0 : Cx G p s m args c cc nL "BoxDrawer$Box" meth) (hin : meth.name = "<init>") (hH : Hw G w H) (hS : va_S (gA G) s.heap H locs) (he : w a = some (.inr (1, fs))) (hn : narrow (tyX 1) v = v) (hft : fits (tyX 1) v = true) (hl : 1 < fs.length) (hdg : decode cc pc = .ok (.putfield 15, 3)) (kk : ∀ (H1 : Heap) (locs1 : List Loc), Hw G (va_up w a (some (.inr (1, fs.set 1 v)))) H1 → va_S (gA G) s.heap H1 locs1 → W p l e R s m args below meth c H1 locs1 cells slots Q (F0 m (pc + 3) ls rest)) : W p l e R s m args below meth c H locs cells slots Q (F0 m pc ls (v :: .ref a :: rest)) :=
  hd_putF C0.1 C0.2.1 C0.2.2.2.2.1 in_X tyX tyX_ok nmX C0.2.2.2.1 C0.hK hH hS he rfl 1 (by decide) (C0.2.2.2.2.1 _ mw_253) (fun _ h => h) rfl hin rfl (tyX_ok 1 (by decide)) hn hft hl hdg kk
theorem pf_X_18 (C0 : Cx G p s m args c cc nL "BoxDrawer$Box" meth) (hin : meth.name = "<init>") (hH : Hw G w H) (hS : va_S (gA G) s.heap H locs) (he : w a = some (.inr (1, fs))) (hn : narrow (tyX 2) v = v) (hft : fits (tyX 2) v = true) (hl : 2 < fs.length) (hdg : decode cc pc = .ok (.putfield 18, 3)) (kk : ∀ (H1 : Heap) (locs1 : List Loc), Hw G (va_up w a (some (.inr (1, fs.set 2 v)))) H1 → va_S (gA G) s.heap H1 locs1 → W p l e R s m args below meth c H1 locs1 cells slots Q (F0 m (pc + 3) ls rest)) : W p l e R s m args below meth c H locs cells slots Q (F0 m pc ls (v :: .ref a :: rest)) :=
  hd_putF C0.1 C0.2.1 C0.2.2.2.2.1 in_X tyX tyX_ok nmX C0.2.2.2.1 C0.hK hH hS he rfl 2 (by decide) (C0.2.2.2.2.1 _ mw_254) (fun _ h => h) rfl hin rfl (tyX_ok 2 (by decide)) hn hft hl hdg kk
theorem pf_X_21 (C0 : Cx G p s m args c cc nL "BoxDrawer$Box" meth) (hin : meth.name = "<init>") (hH : Hw G w H) (hS : va_S (gA G) s.heap H locs) (he : w a = some (.inr (1, fs))) (hn : narrow (tyX 3) v = v) (hft : fits (tyX 3) v = true) (hl : 3 < fs.length) (hdg : decode cc pc = .ok (.putfield 21, 3)) (kk : ∀ (H1 : Heap) (locs1 : List Loc), Hw G (va_up w a (some (.inr (1, fs.set 3 v)))) H1 → va_S (gA G) s.heap H1 locs1 → W p l e R s m args below meth c H1 locs1 cells slots Q (F0 m (pc + 3) ls rest)) : W p l e R s m args below meth c H locs cells slots Q (F0 m pc ls (v :: .ref a :: rest)) :=
  hd_putF C0.1 C0.2.1 C0.2.2.2.2.1 in_X tyX tyX_ok nmX C0.2.2.2.1 C0.hK hH hS he rfl 3 (by decide) (C0.2.2.2.2.1 _ mw_255) (fun _ h => h) rfl hin rfl (tyX_ok 3 (by decide)) hn hft hl hdg kk
theorem pf_X_24 (C0 : Cx G p s m args c cc nL "BoxDrawer$Box" meth) (hin : meth.name = "<init>") (hH : Hw G w H) (hS : va_S (gA G) s.heap H locs) (he : w a = some (.inr (1, fs))) (hn : narrow (tyX 4) v = v) (hft : fits (tyX 4) v = true) (hl : 4 < fs.length) (hdg : decode cc pc = .ok (.putfield 24, 3)) (kk : ∀ (H1 : Heap) (locs1 : List Loc), Hw G (va_up w a (some (.inr (1, fs.set 4 v)))) H1 → va_S (gA G) s.heap H1 locs1 → W p l e R s m args below meth c H1 locs1 cells slots Q (F0 m (pc + 3) ls rest)) : W p l e R s m args below meth c H locs cells slots Q (F0 m pc ls (v :: .ref a :: rest)) :=
  hd_putF C0.1 C0.2.1 C0.2.2.2.2.1 in_X tyX tyX_ok nmX C0.2.2.2.1 C0.hK hH hS he rfl 4 (by decide) (C0.2.2.2.2.1 _ mw_256) (fun _ h => h) rfl hin rfl (tyX_ok 4 (by decide)) hn hft hl hdg kk
theorem gf_M_7 (C0 : Cx G p s m args c cc nL "BoxDrawerModel" meth) (hH : Hw G w H) (he : w a = some (.inr (3, fs))) (hv : fs[1]? = some v) (hdg : decode cc pc = .ok (.getfield 7, 3)) (kk : W p l e R s m args below meth c H locs cells slots Q (F0 m (pc + 3) ls (v :: rest))) : W p l e R s m args below meth c H locs cells slots Q (F0 m pc ls (.ref a :: rest)) :=
  hd_get C0.1 C0.2.1 C0.2.2.2.2.1 in_M C0.2.2.2.1 C0.hK hH he rfl 1 (by decide) (C0.2.2.2.2.1 _ mw_695) (fun _ h => h) hv hdg kk
theorem gf_M_13 (C0 : Cx G p s m args c cc nL "BoxDrawerModel" meth) (hH : Hw G w H) (he : w a = some (.inr (3, fs))) (hv : fs[2]? = some v) (hdg : decode cc pc = .ok (.getfield 13, 3)) (kk : W p l e R s m args below meth c H locs cells slots Q (F0 m (pc + 3) ls (v :: rest))) : W p l e R s m args below meth c H locs cells slots Q (F0 m pc ls (.ref a :: rest)) :=
  hd_get C0.1 C0.2.1 C0.2.2.2.2.1 in_M C0.2.2.2.1 C0.hK hH he rfl 2 (by decide) (C0.2.2.2.2.1 _ mw_696) (fun _ h => h) hv hdg kk
theorem gf_M_17 (C0 : Cx G p s m args c cc nL "BoxDrawerModel" meth) (hH : Hw G w H) (he : w a = some (.inr (3, fs))) (hv : fs[3]? = some v) (hdg : decode cc pc = .ok (.getfield 17, 3)) (kk : W p l e R s m args below meth c H locs cells slots Q (F0 m (pc + 3) ls (v :: rest))) : W p l e R s m args below meth c H locs cells slots Q (F0 m pc ls (.ref a :: rest)) :=
  hd_get C0.1 C0.2.1 C0.2.2.2.2.1 in_M C0.2.2.2.1 C0.hK hH he rfl 3 (by decide) (C0.2.2.2.2.1 _ mw_697) (fun _ h => h) hv hdg kk
theorem gf_M_20 (C0 : Cx G p s m args c cc nL "BoxDrawerModel" meth) (hH : Hw G w H) (he : w a = some (.inr (3, fs))) (hv : fs[4]? = some v) (hdg : decode cc pc = .ok (.getfield 20, 3)) (kk : W p l e R s m args below meth c H locs cells slots Q (F0 m (pc + 3) ls (v :: rest))) : W p l e R s m args below meth c H locs cells slots Q (F0 m pc ls (.ref a :: rest)) :=
  hd_get C0.1 C0.2.1 C0.2.2.2.2.1 in_M C0.2.2.2.1 C0.hK hH he rfl 4 (by decide) (C0.2.2.2.2.1 _ mw_698) (fun _ h => h) hv hdg kk
theorem gf_M_23 (C0 : Cx G p s m args c cc nL "BoxDrawerModel" meth) (hH : Hw G w H) (he : w a = some (.inr (3, fs))) (hv : fs[5]? = some v) (hdg : decode cc pc = .ok (.getfield 23, 3)) (kk : W p l e R s m args below meth c H locs cells slots Q (F0 m (pc + 3) ls (v :: rest))) : W p l e R s m args below meth c H locs cells slots Q (F0 m pc ls (.ref a :: rest)) :=
  hd_get C0.1 C0.2.1 C0.2.2.2.2.1 in_M C0.2.2.2.1 C0.hK hH he rfl 5 (by decide) (C0.2.2.2.2.1 _ mw_699) (fun _ h => h) hv hdg kk
theorem gf_M_26 (C0 : Cx G p s m args c cc nL "BoxDrawerModel" meth) (hH : Hw G w H) (he : w a = some (.inr (3, fs))) (hv : fs[7]? = some v) (hdg : decode cc pc = .ok (.getfield 26, 3)) (kk : W p l e R s m args below meth c H locs cells slots Q (F0 m (pc + 3) ls (v :: rest))) : W p l e R s m args below meth c H locs cells slots Q (F0 m pc ls (.ref a :: rest)) :=
  hd_get C0.1 C0.2.1 C0.2.2.2.2.1 in_M C0.2.2.2.1 C0.hK hH he rfl 7 (by decide) (C0.2.2.2.2.1 _ mw_701) (fun _ h => h) hv hdg kk
theorem gf_M_29 (C0 : Cx G p s m args c cc nL "BoxDrawerModel" meth) (hH : Hw G w H) (he : w a = some (.inr (3, fs))) (hv : fs[0]? = some v) (hdg : decode cc pc = .ok (.getfield 29, 3)) (kk : W p l e R s m args below meth c H locs cells slots Q (F0 m (pc + 3) ls (v :: rest))) : W p l e R s m args below meth c H locs cells slots Q (F0 m pc ls (.ref a :: rest)) :=
  hd_get C0.1 C0.2.1 C0.2.2.2.2.1 in_M C0.2.2.2.1 C0.hK hH he rfl 0 (by decide) (C0.2.2.2.2.1 _ mw_694) (fun _ h => h) hv hdg kk
theorem gf_M_55 (C0 : Cx G p s m args c cc nL "BoxDrawerModel" meth) (hH : Hw G w H) (he : w a = some (.inr (3, fs))) (hv : fs[6]? = some v) (hdg : decode cc pc = .ok (.getfield 55, 3)) (kk : W p l e R s m args below meth c H locs cells slots Q (F0 m (pc + 3) ls (v :: rest))) : W p l e R s m args below meth c H locs cells slots Q (F0 m pc ls (.ref a :: rest)) :=
  hd_get C0.1 C0.2.1 C0.2.2.2.2.1 in_M C0.2.2.2.1 C0.hK hH he rfl 6 (by decide) (C0.2.2.2.2.1 _ mw_700) (fun _ h => h) hv hdg kk
theorem pf_M_7 (C0 : Cx G p s m args c cc nL "BoxDrawerModel" meth) (hin : meth.name = "<init>") (hH : Hw G w H) (hS : va_S (gA G) s.heap H locs) (he : w a = some (.inr (3, fs))) (hn : narrow (tyM 1) v = v) (hft : fits (tyM 1) v = true) (hl : 1 < fs.length) (hdg : decode cc pc = .ok (.putfield 7, 3)) (kk : ∀ (H1 : Heap) (locs1 : List Loc), Hw G (va_up w a (some (.inr (3, fs.set 1 v)))) H1 → va_S (gA G) s.heap H1 locs1 → W p l e R s m args below meth c H1 locs1 cells slots Q (F0 m (pc + 3) ls rest)) : W p l e R s m args below meth c H locs cells slots Q (F0 m pc ls (v :: .ref a :: rest)) :=
  hd_putF C0.1 C0.2.1 C0.2.2.2.2.1 in_M tyM tyM_ok nmM C0.2.2.2.1 C0.hK hH hS he rfl 1 (by decide) (C0.2.2.2.2.1 _ mw_695) (fun _ h => h) rfl hin rfl (tyM_ok 1 (by decide)) hn hft hl hdg kk
theorem pf_M_13 (C0 : Cx G p s m args c cc nL "BoxDrawerModel" meth) (hin : meth.name = "<init>") (hH : Hw G w H) (hS : va_S (gA G) s.heap H locs) (he : w a = some (.inr (3, fs))) (hn : narrow (tyM 2) v = v) (hft : fits (tyM 2) v = true) (hl : 2 < fs.length) (hdg : decode cc pc = .ok (.putfield 13, 3)) (kk : ∀ (H1 : Heap) (locs1 : List Loc), Hw G (va_up w a (some (.inr (3, fs.set 2 v)))) H1 → va_S (gA G) s.heap H1 locs1 → W p l e R s m args below meth c H1 locs1 cells slots Q (F0 m (pc + 3) ls rest)) : W p l e R s m args below meth c H locs cells slots Q (F0 m pc ls (v :: .ref a :: rest)) :=
  hd_putF C0.1 C0.2.1 C0.2.2.2.2.1 in_M tyM tyM_ok nmM C0.2.2.2.1 C0.hK hH hS he rfl 2 (by decide) (C0.2.2.2.2.1 _ mw_696) (fun _ h => h) rfl hin rfl (tyM_ok 2 (by decide)) hn hft hl hdg kk
theorem pf_M_17 (C0 : Cx G p s m args c cc nL "BoxDrawerModel" meth) (hin : meth.name = "<init>") (hH : Hw G w H) (hS : va_S (gA G) s.heap H locs) (he : w a = some (.inr (3, fs))) (hn : narrow (tyM 3) v = v) (hft : fits (tyM 3) v = true) (hl : 3 < fs.length) (hdg : decode cc pc = .ok (.putfield 17, 3)) (kk : ∀ (H1 : Heap) (locs1 : List Loc), Hw G (va_up w a (some (.inr (3, fs.set 3 v)))) H1 → va_S (gA G) s.heap H1 locs1 → W p l e R s m args below meth c H1 locs1 cells slots Q (F0 m (pc + 3) ls rest)) : W p l e R s m args below meth c H locs cells slots Q (F0 m pc ls (v :: .ref a :: rest)) :=
  hd_putF C0.1 C0.2.1 C0.2.2.2.2.1 in_M tyM tyM_ok nmM C0.2.2.2.1 C0.hK hH hS he rfl 3 (by decide) (C0.2.2.2.2.1 _ mw_697) (fun _ h => h) rfl hin rfl (tyM_ok 3 (by decide)) hn hft hl hdg kk
theorem pf_M_20 (C0 : Cx G p s m args c cc nL "BoxDrawerModel" meth) (hin : meth.name = "<init>") (hH : Hw G w H) (hS : va_S (gA G) s.heap H locs) (he : w a = some (.inr (3, fs))) (hn : narrow (tyM 4) v = v) (hft : fits (tyM 4) v = true) (hl : 4 < fs.length) (hdg : decode cc pc = .ok (.putfield 20, 3)) (kk : ∀ (H1 : Heap) (locs1 : List Loc), Hw G (va_up w a (some (.inr (3, fs.set 4 v)))) H1 → va_S (gA G) s.heap H1 locs1 → W p l e R s m args below meth c H1 locs1 cells slots Q (F0 m (pc + 3) ls rest)) : W p l e R s m args below meth c H locs cells slots Q (F0 m pc ls (v :: .ref a :: rest)) :=
  hd_putF C0.1 C0.2.1 C0.2.2.2.2.1 in_M tyM tyM_ok nmM C0.2.2.2.1 C0.hK hH hS he rfl 4 (by decide) (C0.2.2.2.2.1 _ mw_698) (fun _ h => h) rfl hin rfl (tyM_ok 4 (by decide)) hn hft hl hdg kk
theorem pf_M_23 (C0 : Cx G p s m args c cc nL "BoxDrawerModel" meth) (hin : meth.name = "<init>") (hH : Hw G w H) (hS : va_S (gA G) s.heap H locs) (he : w a = some (.inr (3, fs))) (hn : narrow (tyM 5) v = v) (hft : fits (tyM 5) v = true) (hl : 5 < fs.length) (hdg : decode cc pc = .ok (.putfield 23, 3)) (kk : ∀ (H1 : Heap) (locs1 : List Loc), Hw G (va_up w a (some (.inr (3, fs.set 5 v)))) H1 → va_S (gA G) s.heap H1 locs1 → W p l e R s m args below meth c H1 locs1 cells slots Q (F0 m (pc + 3) ls rest)) : W p l e R s m args below meth c H locs cells slots Q (F0 m pc ls (v :: .ref a :: rest)) :=
  hd_putF C0.1 C0.2.1 C0.2.2.2.2.1 in_M tyM tyM_ok nmM C0.2.2.2.1 C0.hK hH hS he rfl 5 (by decide) (C0.2.2.2.2.1 _ mw_699) (fun _ h => h) rfl hin rfl (tyM_ok 5 (by decide)) hn hft hl hdg kk
theorem pf_M_26 (C0 : Cx G p s m args c cc nL "BoxDrawerModel" meth) (hin : meth.name = "<init>") (hH : Hw G w H) (hS : va_S (gA G) s.heap H locs) (he : w a = some (.inr (3, fs))) (hn : narrow (tyM 7) v = v) (hft : fits (tyM 7) v = true) (hl : 7 < fs.length) (hdg : decode cc pc = .ok (.putfield 26, 3)) (kk : ∀ (H1 : Heap) (locs1 : List Loc), Hw G (va_up w a (some (.inr (3, fs.set 7 v)))) H1 → va_S (gA G) s.heap H1 locs1 → W p l e R s m args below meth c H1 locs1 cells slots Q (F0 m (pc + 3) ls rest)) : W p l e R s m args below meth c H locs cells slots Q (F0 m pc ls (v :: .ref a :: rest)) :=
  hd_putF C0.1 C0.2.1 C0.2.2.2.2.1 in_M tyM tyM_ok nmM C0.2.2.2.1 C0.hK hH hS he rfl 7 (by decide) (C0.2.2.2.2.1 _ mw_701) (fun _ h => h) rfl hin rfl (tyM_ok 7 (by decide)) hn hft hl hdg kk
theorem pf_M_29 (C0 : Cx G p s m args c cc nL "BoxDrawerModel" meth) (hH : Hw G w H) (hS : va_S (gA G) s.heap H locs) (he : w a = some (.inr (3, fs))) (hn : narrow (tyM 0) v = v) (hft : fits (tyM 0) v = true) (hl : 0 < fs.length) (hdg : decode cc pc = .ok (.putfield 29, 3)) (kk : ∀ (H1 : Heap) (locs1 : List Loc), Hw G (va_up w a (some (.inr (3, fs.set 0 v)))) H1 → va_S (gA G) s.heap H1 locs1 → W p l e R s m args below meth c H1 locs1 cells slots Q (F0 m (pc + 3) ls rest)) : W p l e R s m args below meth c H locs cells slots Q (F0 m pc ls (v :: .ref a :: rest)) :=
  hd_put C0.1 C0.2.1 C0.2.2.2.2.1 in_M tyM tyM_ok nmM C0.2.2.2.1 C0.hK hH hS he rfl 0 (by decide) (C0.2.2.2.2.1 _ mw_694) (fun _ h => h) rfl (tyM_ok 0 (by decide)) hn hft hl hdg kk
theorem pf_M_55 (C0 : Cx G p s m args c cc nL "BoxDrawerModel" meth) (hH : Hw G w H) (hS : va_S (gA G) s.heap H locs) (he : w a = some (.inr (3, fs))) (hn : narrow (tyM 6) v = v) (hft : fits (tyM 6) v = true) (hl : 6 < fs.length) (hdg : decode cc pc = .ok (.putfield 55, 3)) (kk : ∀ (H1 : Heap) (locs1 : List Loc), Hw G (va_up w a (some (.inr (3, fs.set 6 v)))) H1 → va_S (gA G) s.heap H1 locs1 → W p l e R s m args below meth c H1 locs1 cells slots Q (F0 m (pc + 3) ls rest)) : W p l e R s m args below meth c H locs cells slots Q (F0 m pc ls (v :: .ref a :: rest)) :=
  hd_put C0.1 C0.2.1 C0.2.2.2.2.1 in_M tyM tyM_ok nmM C0.2.2.2.1 C0.hK hH hS he rfl 6 (by decide) (C0.2.2.2.2.1 _ mw_700) (fun _ h => h) rfl (tyM_ok 6 (by decide)) hn hft hl hdg kk
theorem pf_AL_7 (C0 : Cx G p s m args c cc nL "java/util/AbstractList" meth) (hH : Hw G w H) (hS : va_S (gA G) s.heap H locs) (he : w a = some (.inr (0, fs))) (hn : narrow (tyA 0) v = v) (hft : fits (tyA 0) v = true) (hl : 0 < fs.length) (hdg : decode cc pc = .ok (.putfield 7, 3)) (kk : ∀ (H1 : Heap) (locs1 : List Loc), Hw G (va_up w a (some (.inr (0, fs.set 0 v)))) H1 → va_S (gA G) s.heap H1 locs1 → W p l e R s m args below meth c H1 locs1 cells slots Q (F0 m (pc + 3) ls rest)) : W p l e R s m args below meth c H locs cells slots Q (F0 m pc ls (v :: .ref a :: rest)) :=
  hd_put C0.1 C0.2.1 C0.2.2.2.2.1 in_A tyA tyA_ok nmA C0.2.2.2.1 C0.hK hH hS he rfl 0 (by decide) (C0.2.2.2.2.1 _ mw_49) (fun _ h => h) rfl (tyA_ok 0 (by decide)) hn hft hl hdg kk
theorem gf_A_9 (C0 : Cx G p s m args c cc nL "java/util/ArrayList" meth) (hH : Hw G w H) (he : w a = some (.inr (0, fs))) (hv : fs[1]? = some v) (hdg : decode cc pc = .ok (.getfield 9, 3)) (kk : W p l e R s m args below meth c H locs cells slots Q (F0 m (pc + 3) ls (v :: rest))) : W p l e R s m args below meth c H locs cells slots Q (F0 m pc ls (.ref a :: rest)) :=
  hd_get C0.1 C0.2.1 C0.2.2.2.2.1 in_A C0.2.2.2.1 C0.hK hH he rfl 1 (by decide) (C0.2.2.2.2.1 _ mw_47) (fun _ h => h) hv hdg kk
theorem gf_A_48 (C0 : Cx G p s m args c cc nL "java/util/ArrayList" meth) (hH : Hw G w H) (he : w a = some (.inr (0, fs))) (hv : fs[2]? = some v) (hdg : decode cc pc = .ok (.getfield 48, 3)) (kk : W p l e R s m args below meth c H locs cells slots Q (F0 m (pc + 3) ls (v :: rest))) : W p l e R s m args below meth c H locs cells slots Q (F0 m pc ls (.ref a :: rest)) :=
  hd_get C0.1 C0.2.1 C0.2.2.2.2.1 in_A C0.2.2.2.1 C0.hK hH he rfl 2 (by decide) (C0.2.2.2.2.1 _ mw_48) (fun _ h => h) hv hdg kk
theorem gf_A_63 (C0 : Cx G p s m args c cc nL "java/util/ArrayList" meth) (hH : Hw G w H) (he : w a = some (.inr (0, fs))) (hv : fs[0]? = some v) (hdg : decode cc pc = .ok (.getfield 63, 3)) (kk : W p l e R s m args below meth c H locs cells slots Q (F0 m (pc + 3) ls (v :: rest))) : W p l e R s m args below meth c H locs cells slots Q (F0 m pc ls (.ref a :: rest)) :=
  hd_get C0.1 C0.2.1 C0.2.2.2.2.1 in_A C0.2.2.2.1 C0.hK hH he rfl 0 (by decide) (C0.2.2.2.2.1 _ mw_50) (fun x9 h9 => u_same (C0.2.2.2.2.1 _ mw_51) x9 h9) hv hdg kk
theorem pf_A_9 (C0 : Cx G p s m args c cc nL "java/util/ArrayList" meth) (hH : Hw G w H) (hS : va_S (gA G) s.heap H locs) (he : w a = some (.inr (0, fs))) (hn : narrow (tyA 1) v = v) (hft : fits (tyA 1) v = true) (hl : 1 < fs.length) (hdg : decode cc pc = .ok (.putfield 9, 3)) (kk : ∀ (H1 : Heap) (locs1 : List Loc), Hw G (va_up w a (some (.inr (0, fs.set 1 v)))) H1 → va_S (gA G) s.heap H1 locs1 → W p l e R s m args below meth c H1 locs1 cells slots Q (F0 m (pc + 3) ls rest)) : W p l e R s m args below meth c H locs cells slots Q (F0 m pc ls (v :: .ref a :: rest)) :=
  hd_put C0.1 C0.2.1 C0.2.2.2.2.1 in_A tyA tyA_ok nmA C0.2.2.2.1 C0.hK hH hS he rfl 1 (by decide) (C0.2.2.2.2.1 _ mw_47) (fun _ h => h) rfl (tyA_ok 1 (by decide)) hn hft hl hdg kk
theorem pf_A_48 (C0 : Cx G p s m args c cc nL "java/util/ArrayList" meth) (hH : Hw G w H) (hS : va_S (gA G) s.heap H locs) (he : w a = some (.inr (0, fs))) (hn : narrow (tyA 2) v = v) (hft : fits (tyA 2) v = true) (hl : 2 < fs.length) (hdg : decode cc pc = .ok (.putfield 48, 3)) (kk : ∀ (H1 : Heap) (locs1 : List Loc), Hw G (va_up w a (some (.inr (0, fs.set 2 v)))) H1 → va_S (gA G) s.heap H1 locs1 → W p l e R s m args below meth c H1 locs1 cells slots Q (F0 m (pc + 3) ls rest)) : W p l e R s m args below meth c H locs cells slots Q (F0 m pc ls (v :: .ref a :: rest)) :=
  hd_put C0.1 C0.2.1 C0.2.2.2.2.1 in_A tyA tyA_ok nmA C0.2.2.2.1 C0.hK hH hS he rfl 2 (by decide) (C0.2.2.2.2.1 _ mw_48) (fun _ h => h) rfl (tyA_ok 2 (by decide)) hn hft hl hdg kk
theorem pf_A_63 (C0 : Cx G p s m args c cc nL "java/util/ArrayList" meth) (hH : Hw G w H) (hS : va_S (gA G) s.heap H locs) (he : w a = some (.inr (0, fs))) (hn : narrow (tyA 0) v = v) (hft : fits (tyA 0) v = true) (hl : 0 < fs.length) (hdg : decode cc pc = .ok (.putfield 63, 3)) (kk : ∀ (H1 : Heap) (locs1 : List Loc), Hw G (va_up w a (some (.inr (0, fs.set 0 v)))) H1 → va_S (gA G) s.heap H1 locs1 → W p l e R s m args below meth c H1 locs1 cells slots Q (F0 m (pc + 3) ls rest)) : W p l e R s m args below meth c H locs cells slots Q (F0 m pc ls (v :: .ref a :: rest)) :=
  hd_put C0.1 C0.2.1 C0.2.2.2.2.1 in_A tyA tyA_ok nmA C0.2.2.2.1 C0.hK hH hS he rfl 0 (by decide) (C0.2.2.2.2.1 _ mw_50) (fun x9 h9 => u_same (C0.2.2.2.2.1 _ mw_51) x9 h9) rfl (tyA_ok 0 (by decide)) hn hft hl hdg kk
theorem cs_B_9 (C0 : Cx G p s m args c cc nL "BoxDrawer" meth) (hR : k + 1 ≤ R.frames ∧ 8 + (1 + 11) + 40 * k ≤ R.locals) : CallB R s args "BoxDrawer" 9 y_A_init c_A_init 1 none ws_A_init (rmK k mc ms) mc ms 0 ∧ y_A_init.name = "<init>" ∧ (Cond.instanceMethod y_A_init).before args s = true :=
  ⟨cB C0 mw_37 mw_35 mw_4 (by decide +kernel) hR, rfl, C0.2.2.2.2.1 _ mw_36⟩
theorem cs_B_38 (C0 : Cx G p s m args c cc nL "BoxDrawer" meth) (hR : k + 1 ≤ R.frames ∧ 8 + (6 + 11) + 40 * k ≤ R.locals) : va_CN R s args "BoxDrawer" 38 y_X_init "BoxDrawer" c_X_init 6 none ws_X_init (rmK k mc ms) mc ms 5 ∧ y_X_init.name = "<init>" ∧ (Cond.instanceMethod y_X_init).before args s = true :=
  ⟨cN C0 mw_249 (by decide +kernel) mw_11 (by decide +kernel) hR, rfl, C0.2.2.2.2.1 _ mw_248⟩
theorem cs_B_28 (C0 : Cx G p s m args c cc nL "BoxDrawer" meth) (hR : k + 1 ≤ R.frames ∧ 8 + (1 + 11) + 40 * k ≤ R.locals) : CallB R s args "BoxDrawer" 28 y_B_requireNumber c_B_requireNumber 1 none ws_B_requireNumber (rmK k mc ms) mc ms 1 ∧ (Cond.static y_B_requireNumber).before args s = true :=
  ⟨cB C0 mw_153 mw_151 mw_1 (by decide +kernel) hR, C0.2.2.2.2.1 _ mw_152⟩
theorem cs_B_32 (C0 : Cx G p s m args c cc nL "BoxDrawer" meth) (hR : k + 1 ≤ R.frames ∧ 8 + (4 + 11) + 40 * k ≤ R.locals) : CallB R s args "BoxDrawer" 32 y_B_requireBounds c_B_requireBounds 4 none ws_B_requireBounds (rmK k mc ms) mc ms 4 ∧ (Cond.static y_B_requireBounds).before args s = true :=
  ⟨cB C0 mw_224 mw_222 mw_1 (by decide +kernel) hR, C0.2.2.2.2.1 _ mw_223⟩
theorem cs_B_78 (C0 : Cx G p s m args c cc nL "BoxDrawer" meth) (hR : k + 1 ≤ R.frames ∧ 8 + (3 + 11) + 40 * k ≤ R.locals) : CallB R s args "BoxDrawer" 78 y_B_fits c_B_fits 3 (some .boolean) ws_B_fits (rmK k mc ms) mc ms 3 ∧ (Cond.static y_B_fits).before args s = true :=
  ⟨cB C0 mw_589 mw_587 mw_1 (by decide +kernel) hR, C0.2.2.2.2.1 _ mw_588⟩
theorem cs_B_90 (C0 : Cx G p s m args c cc nL "BoxDrawer" meth) (hR : k + 1 ≤ R.frames ∧ 8 + (2 + 11) + 40 * k ≤ R.locals) : CallB R s args "BoxDrawer" 90 y_B_requirePlace c_B_requirePlace 2 none ws_B_requirePlace (rmK k mc ms) mc ms 2 ∧ (Cond.static y_B_requirePlace).before args s = true :=
  ⟨cB C0 mw_227 mw_225 mw_1 (by decide +kernel) hR, C0.2.2.2.2.1 _ mw_226⟩
theorem cs_B_122 (C0 : Cx G p s m args c cc nL "BoxDrawer" meth) (hR : k + 1 ≤ R.frames ∧ 8 + (1 + 11) + 40 * k ≤ R.locals) : CallB R s args "BoxDrawer" 122 y_B_requireBound c_B_requireBound 1 none ws_B_requireBound (rmK k mc ms) mc ms 1 ∧ (Cond.static y_B_requireBound).before args s = true :=
  ⟨cB C0 mw_644 mw_642 mw_1 (by decide +kernel) hR, C0.2.2.2.2.1 _ mw_643⟩
theorem cs_B_137 (C0 : Cx G p s m args c cc nL "BoxDrawer" meth) (hR : k + 1 ≤ R.frames ∧ 8 + (1 + 11) + 40 * k ≤ R.locals) : CallB R s args "BoxDrawer" 137 y_B_isLeast c_B_isLeast 1 (some .boolean) ws_B_isLeast (rmK k mc ms) mc ms 1 ∧ (Cond.static y_B_isLeast).before args s = true :=
  ⟨cB C0 mw_672 mw_670 mw_1 (by decide +kernel) hR, C0.2.2.2.2.1 _ mw_671⟩
theorem cs_B_164 (C0 : Cx G p s m args c cc nL "BoxDrawer" meth) (hR : k + 1 ≤ R.frames ∧ 8 + (3 + 11) + 40 * k ≤ R.locals) : CallB R s args "BoxDrawer" 164 y_R_copyOf c_R_copyOf 3 (some (.array .int)) ws_R_copyOf (rmK k mc ms) mc ms 2 ∧ (Cond.static y_R_copyOf).before args s = true :=
  ⟨cB C0 mw_126 mw_124 mw_20 (by decide +kernel) hR, C0.2.2.2.2.1 _ mw_125⟩
theorem cs_B_41 (C0 : Cx G p s m args c cc nL "BoxDrawer" meth) (hR : k + 1 ≤ R.frames ∧ 8 + (5 + 11) + 40 * k ≤ R.locals) : CallW R s args "BoxDrawer" "BoxDrawer" 41 y_B_indexFor c_B_indexFor 5 (some .int) ws_B_indexFor (rmK k mc ms) mc ms 1 :=
  ⟨cB C0 mw_271 mw_268 mw_1 (by decide +kernel) hR, C0.2.2.2.2.1 _ mw_270, C0.2.2.2.2.1 _ msel_4⟩
theorem cs_B_45 (C0 : Cx G p s m args c cc nL "BoxDrawer" meth) (hR : k + 1 ≤ R.frames ∧ 8 + (3 + 11) + 40 * k ≤ R.locals) : CallW R s args "BoxDrawer" "BoxDrawer" 45 y_B_isAt c_B_isAt 3 (some .boolean) ws_B_isAt (rmK k mc ms) mc ms 2 :=
  ⟨cB C0 mw_275 mw_272 mw_1 (by decide +kernel) hR, C0.2.2.2.2.1 _ mw_274, C0.2.2.2.2.1 _ msel_5⟩
theorem cs_B_49 (C0 : Cx G p s m args c cc nL "BoxDrawer" meth) (hR : k + 1 ≤ R.frames ∧ 8 + (4 + 11) + 40 * k ≤ R.locals) : CallW R s args "BoxDrawer" "java/util/ArrayList" 49 y_A_set c_A_set 4 (some (.object "java/lang/Object")) ws_A_set (rmK k mc ms) mc ms 2 :=
  ⟨cB C0 mw_279 mw_276 mw_4 (by decide +kernel) hR, C0.2.2.2.2.1 _ mw_277, C0.2.2.2.2.1 _ mw_278⟩
theorem cs_B_53 (C0 : Cx G p s m args c cc nL "BoxDrawer" meth) (hR : k + 1 ≤ R.frames ∧ 8 + (5 + 11) + 40 * k ≤ R.locals) : CallW R s args "BoxDrawer" "java/util/ArrayList" 53 y_A_add c_A_add 5 none ws_A_add (rmK k mc ms) mc ms 2 :=
  ⟨cB C0 mw_283 mw_280 mw_4 (by decide +kernel) hR, C0.2.2.2.2.1 _ mw_281, C0.2.2.2.2.1 _ mw_282⟩
theorem cs_B_57 (C0 : Cx G p s m args c cc nL "BoxDrawer" meth) (hR : k + 1 ≤ R.frames ∧ 8 + (4 + 11) + 40 * k ≤ R.locals) : CallW R s args "BoxDrawer" "java/util/ArrayList" 57 y_A_remove c_A_remove 4 (some (.object "java/lang/Object")) ws_A_remove (rmK k mc ms) mc ms 1 :=
  ⟨cB C0 mw_574 mw_571 mw_4 (by decide +kernel) hR, C0.2.2.2.2.1 _ mw_572, C0.2.2.2.2.1 _ mw_573⟩
theorem cs_B_61 (C0 : Cx G p s m args c cc nL "BoxDrawer" meth) (hR : k + 1 ≤ R.frames ∧ 8 + (1 + 11) + 40 * k ≤ R.locals) : CallW R s args "BoxDrawer" "java/util/ArrayList" 61 y_A_size c_A_size 1 (some .int) ws_A_size (rmK k mc ms) mc ms 0 :=
  ⟨cB C0 mw_81 mw_78 mw_4 (by decide +kernel) hR, C0.2.2.2.2.1 _ mw_79, C0.2.2.2.2.1 _ mw_80⟩
theorem cs_B_65 (C0 : Cx G p s m args c cc nL "BoxDrawer" meth) (hR : k + 1 ≤ R.frames ∧ 8 + (4 + 11) + 40 * k ≤ R.locals) : CallW R s args "BoxDrawer" "java/util/ArrayList" 65 y_A_clear c_A_clear 4 none ws_A_clear (rmK k mc ms) mc ms 0 :=
  ⟨cB C0 mw_85 mw_82 mw_4 (by decide +kernel) hR, C0.2.2.2.2.1 _ mw_83, C0.2.2.2.2.1 _ mw_84⟩
theorem cs_B_75 (C0 : Cx G p s m args c cc nL "BoxDrawer" meth) (hR : k + 1 ≤ R.frames ∧ 8 + (2 + 11) + 40 * k ≤ R.locals) : CallW R s args "BoxDrawer" "java/util/ArrayList" 75 y_A_get c_A_get 2 (some (.object "java/lang/Object")) ws_A_get (rmK k mc ms) mc ms 1 :=
  ⟨cB C0 mw_93 mw_90 mw_4 (by decide +kernel) hR, C0.2.2.2.2.1 _ mw_91, C0.2.2.2.2.1 _ mw_92⟩
theorem cs_B_85 (C0 : Cx G p s m args c cc nL "BoxDrawer" meth) (hR : k + 1 ≤ R.frames ∧ 8 + (2 + 11) + 40 * k ≤ R.locals) : CallW R s args "BoxDrawer" "BoxDrawer" 85 y_B_append c_B_append 2 none ws_B_append (rmK k mc ms) mc ms 1 :=
  ⟨cB C0 mw_113 mw_110 mw_1 (by decide +kernel) hR, C0.2.2.2.2.1 _ mw_112, C0.2.2.2.2.1 _ msel_1⟩
theorem cs_B_100 (C0 : Cx G p s m args c cc nL "BoxDrawer" meth) (hR : k + 1 ≤ R.frames ∧ 8 + (3 + 11) + 40 * k ≤ R.locals) : CallW R s args "BoxDrawer" "BoxDrawer" 100 y_B_makeRoom c_B_makeRoom 3 none ws_B_makeRoom (rmK k mc ms) mc ms 1 :=
  ⟨cB C0 mw_117 mw_114 mw_1 (by decide +kernel) hR, C0.2.2.2.2.1 _ mw_116, C0.2.2.2.2.1 _ msel_2⟩
theorem cs_B_103 (C0 : Cx G p s m args c cc nL "BoxDrawer" meth) (hR : k + 1 ≤ R.frames ∧ 8 + (1 + 11) + 40 * k ≤ R.locals) : CallW R s args "BoxDrawer" "BoxDrawer" 103 y_B_makeRoomForDistances c_B_makeRoomForDistances 1 none ws_B_makeRoomForDistances (rmK k mc ms) mc ms 0 :=
  ⟨cB C0 mw_605 mw_602 mw_1 (by decide +kernel) hR, C0.2.2.2.2.1 _ mw_604, C0.2.2.2.2.1 _ msel_12⟩
theorem cs_B_106 (C0 : Cx G p s m args c cc nL "BoxDrawer" meth) (hR : k + 1 ≤ R.frames ∧ 8 + (7 + 11) + 40 * k ≤ R.locals) : va_CN R s args "BoxDrawer" 106 y_X_distanceFrom "BoxDrawer" c_X_distanceFrom 7 (some .long) ws_X_distanceFrom (rmK k mc ms) mc ms 2 ∧ (Cond.instanceMethod y_X_distanceFrom).before args s = true ∧ (Cond.selects "BoxDrawer$Box" y_X_distanceFrom y_X_distanceFrom).before args s = true :=
  ⟨cN C0 mw_609 (by decide +kernel) mw_11 (by decide +kernel) hR, C0.2.2.2.2.1 _ mw_608, C0.2.2.2.2.1 _ msel_13⟩
theorem cs_B_110 (C0 : Cx G p s m args c cc nL "BoxDrawer" meth) (hR : k + 1 ≤ R.frames ∧ 8 + (7 + 11) + 40 * k ≤ R.locals) : CallW R s args "BoxDrawer" "BoxDrawer" 110 y_B_insertByDistance c_B_insertByDistance 7 none ws_B_insertByDistance (rmK k mc ms) mc ms 3 :=
  ⟨cB C0 mw_616 mw_613 mw_1 (by decide +kernel) hR, C0.2.2.2.2.1 _ mw_615, C0.2.2.2.2.1 _ msel_14⟩
theorem cs_B_114 (C0 : Cx G p s m args c cc nL "BoxDrawer" meth) (hR : k + 1 ≤ R.frames ∧ 8 + (2 + 11) + 40 * k ≤ R.locals) : va_CN R s args "BoxDrawer" 114 y_X_meets "BoxDrawer" c_X_meets 2 (some .boolean) ws_X_meets (rmK k mc ms) mc ms 1 ∧ (Cond.instanceMethod y_X_meets).before args s = true ∧ (Cond.selects "BoxDrawer$Box" y_X_meets y_X_meets).before args s = true :=
  ⟨cN C0 mw_109 (by decide +kernel) mw_11 (by decide +kernel) hR, C0.2.2.2.2.1 _ mw_107, C0.2.2.2.2.1 _ msel_0⟩
theorem cs_B_118 (C0 : Cx G p s m args c cc nL "BoxDrawer" meth) (hR : k + 1 ≤ R.frames ∧ 8 + (3 + 11) + 40 * k ≤ R.locals) : CallW R s args "BoxDrawer" "BoxDrawer" 118 y_B_requireBox c_B_requireBox 3 (some (.object "BoxDrawer$Box")) ws_B_requireBox (rmK k mc ms) mc ms 1 :=
  ⟨cB C0 mw_632 mw_629 mw_1 (by decide +kernel) hR, C0.2.2.2.2.1 _ mw_631, C0.2.2.2.2.1 _ msel_16⟩
theorem cs_B_125 (C0 : Cx G p s m args c cc nL "BoxDrawer" meth) (hR : k + 1 ≤ R.frames ∧ 8 + (1 + 11) + 40 * k ≤ R.locals) : CallW R s args "BoxDrawer" "java/util/ArrayList" 125 y_A_isEmpty c_A_isEmpty 1 (some .boolean) ws_A_isEmpty (rmK k mc ms) mc ms 0 :=
  ⟨cB C0 mw_649 mw_646 mw_4 (by decide +kernel) hR, C0.2.2.2.2.1 _ mw_647, C0.2.2.2.2.1 _ mw_648⟩
theorem cs_B_134 (C0 : Cx G p s m args c cc nL "BoxDrawer" meth) (hR : k + 1 ≤ R.frames ∧ 8 + (2 + 11) + 40 * k ≤ R.locals) : va_CN R s args "BoxDrawer" 134 y_X_bound "BoxDrawer" c_X_bound 2 (some .int) ws_X_bound (rmK k mc ms) mc ms 1 ∧ (Cond.instanceMethod y_X_bound).before args s = true ∧ (Cond.selects "BoxDrawer$Box" y_X_bound y_X_bound).before args s = true :=
  ⟨cN C0 mw_669 (by decide +kernel) mw_11 (by decide +kernel) hR, C0.2.2.2.2.1 _ mw_668, C0.2.2.2.2.1 _ msel_17⟩
theorem cs_B_161 (C0 : Cx G p s m args c cc nL "BoxDrawer" meth) (hR : k + 1 ≤ R.frames ∧ 8 + (2 + 11) + 40 * k ≤ R.locals) : va_CN R s args "BoxDrawer" 161 y_X_liesIn "BoxDrawer" c_X_liesIn 2 (some .boolean) ws_X_liesIn (rmK k mc ms) mc ms 1 ∧ (Cond.instanceMethod y_X_liesIn).before args s = true ∧ (Cond.selects "BoxDrawer$Box" y_X_liesIn y_X_liesIn).before args s = true :=
  ⟨cN C0 mw_593 (by decide +kernel) mw_11 (by decide +kernel) hR, C0.2.2.2.2.1 _ mw_592, C0.2.2.2.2.1 _ msel_11⟩
theorem cs_B_170 (C0 : Cx G p s m args c cc nL "BoxDrawer" meth) (hR : k + 1 ≤ R.frames ∧ 8 + (6 + 11) + 40 * k ≤ R.locals) : CallW R s args "BoxDrawer" "BoxDrawer" 170 y_B_indexBehind c_B_indexBehind 6 (some .int) ws_B_indexBehind (rmK k mc ms) mc ms 1 :=
  ⟨cB C0 mw_620 mw_617 mw_1 (by decide +kernel) hR, C0.2.2.2.2.1 _ mw_619, C0.2.2.2.2.1 _ msel_15⟩
theorem cs_X_27 (C0 : Cx G p s m args c cc nL "BoxDrawer$Box" meth) (hR : k + 1 ≤ R.frames ∧ 8 + (3 + 11) + 40 * k ≤ R.locals) : CallB R s args "BoxDrawer$Box" 27 y_X_wayTo c_X_wayTo 3 (some .long) ws_X_wayTo (rmK k mc ms) mc ms 3 ∧ (Cond.static y_X_wayTo).before args s = true :=
  ⟨cB C0 mw_612 mw_610 mw_11 (by decide +kernel) hR, C0.2.2.2.2.1 _ mw_611⟩
theorem cs_L_46 (C0 : Cx G p s m args c cc nL "BoxDrawerLaw" meth) (hR : k + 1 ≤ R.frames ∧ 8 + (1 + 11) + 40 * k ≤ R.locals) : CallB R s args "BoxDrawerLaw" 46 y_B_init c_B_init 1 none ws_B_init (rmK k mc ms) mc ms 0 ∧ y_B_init.name = "<init>" ∧ (Cond.instanceMethod y_B_init).before args s = true :=
  ⟨cB C0 mw_29 mw_27 mw_1 (by decide +kernel) hR, rfl, C0.2.2.2.2.1 _ mw_28⟩
theorem cs_L_49 (C0 : Cx G p s m args c cc nL "BoxDrawerLaw" meth) (hR : k + 1 ≤ R.frames ∧ 8 + (1 + 11) + 40 * k ≤ R.locals) : CallB R s args "BoxDrawerLaw" 49 y_M_init c_M_init 1 none ws_M_init (rmK k mc ms) mc ms 0 ∧ y_M_init.name = "<init>" ∧ (Cond.instanceMethod y_M_init).before args s = true :=
  ⟨cB C0 mw_692 mw_690 mw_5 (by decide +kernel) hR, rfl, C0.2.2.2.2.1 _ mw_691⟩
theorem cs_L_7 (C0 : Cx G p s m args c cc nL "BoxDrawerLaw" meth) (hR : k + 1 ≤ R.frames ∧ 8 + (8 + 11) + 40 * k ≤ R.locals) : CallW R s args "BoxDrawerLaw" "BoxDrawer" 7 y_B_put c_B_put 8 (some .boolean) ws_B_put (rmK k mc ms) mc ms 5 :=
  ⟨cB C0 mw_150 mw_147 mw_1 (by decide +kernel) hR, C0.2.2.2.2.1 _ mw_148, C0.2.2.2.2.1 _ mw_149⟩
theorem cs_L_17 (C0 : Cx G p s m args c cc nL "BoxDrawerLaw" meth) (hR : k + 1 ≤ R.frames ∧ 8 + (3 + 11) + 40 * k ≤ R.locals) : CallW R s args "BoxDrawerLaw" "BoxDrawer" 17 y_B_take c_B_take 3 (some .boolean) ws_B_take (rmK k mc ms) mc ms 1 :=
  ⟨cB C0 mw_570 mw_567 mw_1 (by decide +kernel) hR, C0.2.2.2.2.1 _ mw_568, C0.2.2.2.2.1 _ mw_569⟩
theorem cs_L_21 (C0 : Cx G p s m args c cc nL "BoxDrawerLaw" meth) (hR : k + 1 ≤ R.frames ∧ 8 + (9 + 11) + 40 * k ≤ R.locals) : CallW R s args "BoxDrawerLaw" "BoxDrawer" 21 y_B_find c_B_find 9 (some .int) ws_B_find (rmK k mc ms) mc ms 5 :=
  ⟨cB C0 mw_585 mw_582 mw_1 (by decide +kernel) hR, C0.2.2.2.2.1 _ mw_583, C0.2.2.2.2.1 _ mw_584⟩
theorem cs_L_25 (C0 : Cx G p s m args c cc nL "BoxDrawerLaw" meth) (hR : k + 1 ≤ R.frames ∧ 8 + (7 + 11) + 40 * k ≤ R.locals) : CallW R s args "BoxDrawerLaw" "BoxDrawer" 25 y_B_nearest c_B_nearest 7 (some .int) ws_B_nearest (rmK k mc ms) mc ms 3 :=
  ⟨cB C0 mw_600 mw_597 mw_1 (by decide +kernel) hR, C0.2.2.2.2.1 _ mw_598, C0.2.2.2.2.1 _ mw_599⟩
theorem cs_L_29 (C0 : Cx G p s m args c cc nL "BoxDrawerLaw" meth) (hR : k + 1 ≤ R.frames ∧ 8 + (5 + 11) + 40 * k ≤ R.locals) : CallW R s args "BoxDrawerLaw" "BoxDrawer" 29 y_B_distance c_B_distance 5 (some .long) ws_B_distance (rmK k mc ms) mc ms 3 :=
  ⟨cB C0 mw_628 mw_625 mw_1 (by decide +kernel) hR, C0.2.2.2.2.1 _ mw_626, C0.2.2.2.2.1 _ mw_627⟩
theorem cs_L_33 (C0 : Cx G p s m args c cc nL "BoxDrawerLaw" meth) (hR : k + 1 ≤ R.frames ∧ 8 + (5 + 11) + 40 * k ≤ R.locals) : CallW R s args "BoxDrawerLaw" "BoxDrawer" 33 y_B_bounds c_B_bounds 5 (some .int) ws_B_bounds (rmK k mc ms) mc ms 1 :=
  ⟨cB C0 mw_641 mw_638 mw_1 (by decide +kernel) hR, C0.2.2.2.2.1 _ mw_639, C0.2.2.2.2.1 _ mw_640⟩
theorem cs_L_39 (C0 : Cx G p s m args c cc nL "BoxDrawerLaw" meth) (hR : k + 1 ≤ R.frames ∧ 8 + (2 + 11) + 40 * k ≤ R.locals) : CallW R s args "BoxDrawerLaw" "BoxDrawer" 39 y_B_result c_B_result 2 (some .int) ws_B_result (rmK k mc ms) mc ms 1 :=
  ⟨cB C0 mw_679 mw_676 mw_1 (by decide +kernel) hR, C0.2.2.2.2.1 _ mw_677, C0.2.2.2.2.1 _ mw_678⟩
theorem cs_L_42 (C0 : Cx G p s m args c cc nL "BoxDrawerLaw" meth) (hR : k + 1 ≤ R.frames ∧ 8 + (4 + 11) + 40 * k ≤ R.locals) : CallW R s args "BoxDrawerLaw" "BoxDrawer" 42 y_B_box c_B_box 4 (some .int) ws_B_box (rmK k mc ms) mc ms 2 :=
  ⟨cB C0 mw_687 mw_684 mw_1 (by decide +kernel) hR, C0.2.2.2.2.1 _ mw_685, C0.2.2.2.2.1 _ mw_686⟩
theorem cs_L_55 (C0 : Cx G p s m args c cc nL "BoxDrawerLaw" meth) (hR : k + 1 ≤ R.frames ∧ 8 + (7 + 11) + 40 * k ≤ R.locals) : CallW R s args "BoxDrawerLaw" "BoxDrawerModel" 55 y_M_put c_M_put 7 (some .boolean) ws_M_put (rmK k mc ms) mc ms 5 :=
  ⟨cB C0 mw_727 mw_724 mw_5 (by decide +kernel) hR, C0.2.2.2.2.1 _ mw_725, C0.2.2.2.2.1 _ mw_726⟩
theorem cs_L_56 (C0 : Cx G p s m args c cc nL "BoxDrawerLaw" meth) (hR : k + 1 ≤ R.frames ∧ 8 + (1 + 11) + 40 * k ≤ R.locals) : CallW R s args "BoxDrawerLaw" "BoxDrawerModel" 56 y_M_thrown c_M_thrown 1 (some .int) ws_M_thrown (rmK k mc ms) mc ms 0 :=
  ⟨cB C0 mw_723 mw_720 mw_5 (by decide +kernel) hR, C0.2.2.2.2.1 _ mw_721, C0.2.2.2.2.1 _ mw_722⟩
theorem cs_L_63 (C0 : Cx G p s m args c cc nL "BoxDrawerLaw" meth) (hR : k + 1 ≤ R.frames ∧ 8 + (3 + 11) + 40 * k ≤ R.locals) : CallW R s args "BoxDrawerLaw" "BoxDrawerModel" 63 y_M_take c_M_take 3 (some .boolean) ws_M_take (rmK k mc ms) mc ms 1 :=
  ⟨cB C0 mw_746 mw_743 mw_5 (by decide +kernel) hR, C0.2.2.2.2.1 _ mw_744, C0.2.2.2.2.1 _ mw_745⟩
theorem cs_L_64 (C0 : Cx G p s m args c cc nL "BoxDrawerLaw" meth) (hR : k + 1 ≤ R.frames ∧ 8 + (2 + 11) + 40 * k ≤ R.locals) : CallW R s args "BoxDrawerLaw" "BoxDrawer" 64 y_B_clear c_B_clear 2 (some .int) ws_B_clear (rmK k mc ms) mc ms 0 :=
  ⟨cB C0 mw_77 mw_74 mw_1 (by decide +kernel) hR, C0.2.2.2.2.1 _ mw_75, C0.2.2.2.2.1 _ mw_76⟩
theorem cs_L_67 (C0 : Cx G p s m args c cc nL "BoxDrawerLaw" meth) (hR : k + 1 ≤ R.frames ∧ 8 + (3 + 11) + 40 * k ≤ R.locals) : CallW R s args "BoxDrawerLaw" "BoxDrawerModel" 67 y_M_clear c_M_clear 3 (some .int) ws_M_clear (rmK k mc ms) mc ms 0 :=
  ⟨cB C0 mw_750 mw_747 mw_5 (by decide +kernel) hR, C0.2.2.2.2.1 _ mw_748, C0.2.2.2.2.1 _ mw_749⟩
theorem cs_L_70 (C0 : Cx G p s m args c cc nL "BoxDrawerLaw" meth) (hR : k + 1 ≤ R.frames ∧ 8 + (8 + 11) + 40 * k ≤ R.locals) : CallW R s args "BoxDrawerLaw" "BoxDrawerModel" 70 y_M_find c_M_find 8 (some .int) ws_M_find (rmK k mc ms) mc ms 5 :=
  ⟨cB C0 mw_758 mw_755 mw_5 (by decide +kernel) hR, C0.2.2.2.2.1 _ mw_756, C0.2.2.2.2.1 _ mw_757⟩
theorem cs_L_74 (C0 : Cx G p s m args c cc nL "BoxDrawerLaw" meth) (hR : k + 1 ≤ R.frames ∧ 8 + (15 + 11) + 40 * k ≤ R.locals) : CallW R s args "BoxDrawerLaw" "BoxDrawerModel" 74 y_M_nearest c_M_nearest 15 (some .int) ws_M_nearest (rmK k mc ms) mc ms 3 :=
  ⟨cB C0 mw_774 mw_771 mw_5 (by decide +kernel) hR, C0.2.2.2.2.1 _ mw_772, C0.2.2.2.2.1 _ mw_773⟩
theorem cs_L_75 (C0 : Cx G p s m args c cc nL "BoxDrawerLaw" meth) (hR : k + 1 ≤ R.frames ∧ 8 + (6 + 11) + 40 * k ≤ R.locals) : CallW R s args "BoxDrawerLaw" "BoxDrawer" 75 y_B_pairs c_B_pairs 6 (some .int) ws_B_pairs (rmK k mc ms) mc ms 0 :=
  ⟨cB C0 mw_89 mw_86 mw_1 (by decide +kernel) hR, C0.2.2.2.2.1 _ mw_87, C0.2.2.2.2.1 _ mw_88⟩
theorem cs_L_78 (C0 : Cx G p s m args c cc nL "BoxDrawerLaw" meth) (hR : k + 1 ≤ R.frames ∧ 8 + (4 + 11) + 40 * k ≤ R.locals) : CallW R s args "BoxDrawerLaw" "BoxDrawerModel" 78 y_M_pairs c_M_pairs 4 (some .int) ws_M_pairs (rmK k mc ms) mc ms 0 :=
  ⟨cB C0 mw_786 mw_783 mw_5 (by decide +kernel) hR, C0.2.2.2.2.1 _ mw_784, C0.2.2.2.2.1 _ mw_785⟩
theorem cs_L_81 (C0 : Cx G p s m args c cc nL "BoxDrawerLaw" meth) (hR : k + 1 ≤ R.frames ∧ 8 + (4 + 11) + 40 * k ≤ R.locals) : CallW R s args "BoxDrawerLaw" "BoxDrawerModel" 81 y_M_distance c_M_distance 4 (some .long) ws_M_distance (rmK k mc ms) mc ms 3 :=
  ⟨cB C0 mw_790 mw_787 mw_5 (by decide +kernel) hR, C0.2.2.2.2.1 _ mw_788, C0.2.2.2.2.1 _ mw_789⟩
theorem cs_L_84 (C0 : Cx G p s m args c cc nL "BoxDrawerLaw" meth) (hR : k + 1 ≤ R.frames ∧ 8 + (4 + 11) + 40 * k ≤ R.locals) : CallW R s args "BoxDrawerLaw" "BoxDrawerModel" 84 y_M_bounds c_M_bounds 4 (some .int) ws_M_bounds (rmK k mc ms) mc ms 1 :=
  ⟨cB C0 mw_798 mw_795 mw_5 (by decide +kernel) hR, C0.2.2.2.2.1 _ mw_796, C0.2.2.2.2.1 _ mw_797⟩
theorem cs_L_87 (C0 : Cx G p s m args c cc nL "BoxDrawerLaw" meth) (hR : k + 1 ≤ R.frames ∧ 8 + (2 + 11) + 40 * k ≤ R.locals) : CallW R s args "BoxDrawerLaw" "BoxDrawerModel" 87 y_M_result c_M_result 2 (some .int) ws_M_result (rmK k mc ms) mc ms 1 :=
  ⟨cB C0 mw_806 mw_803 mw_5 (by decide +kernel) hR, C0.2.2.2.2.1 _ mw_804, C0.2.2.2.2.1 _ mw_805⟩
theorem cs_L_91 (C0 : Cx G p s m args c cc nL "BoxDrawerLaw" meth) (hR : k + 1 ≤ R.frames ∧ 8 + (3 + 11) + 40 * k ≤ R.locals) : CallW R s args "BoxDrawerLaw" "BoxDrawerModel" 91 y_M_box c_M_box 3 (some .int) ws_M_box (rmK k mc ms) mc ms 2 :=
  ⟨cB C0 mw_810 mw_807 mw_5 (by decide +kernel) hR, C0.2.2.2.2.1 _ mw_808, C0.2.2.2.2.1 _ mw_809⟩
theorem cs_L_92 (C0 : Cx G p s m args c cc nL "BoxDrawerLaw" meth) (hR : k + 1 ≤ R.frames ∧ 8 + (2 + 11) + 40 * k ≤ R.locals) : CallW R s args "BoxDrawerLaw" "BoxDrawer" 92 y_B_count c_B_count 2 (some .int) ws_B_count (rmK k mc ms) mc ms 1 :=
  ⟨cB C0 mw_141 mw_138 mw_1 (by decide +kernel) hR, C0.2.2.2.2.1 _ mw_139, C0.2.2.2.2.1 _ mw_140⟩
theorem cs_L_95 (C0 : Cx G p s m args c cc nL "BoxDrawerLaw" meth) (hR : k + 1 ≤ R.frames ∧ 8 + (2 + 11) + 40 * k ≤ R.locals) : CallW R s args "BoxDrawerLaw" "BoxDrawerModel" 95 y_M_count c_M_count 2 (some .int) ws_M_count (rmK k mc ms) mc ms 1 :=
  ⟨cB C0 mw_814 mw_811 mw_5 (by decide +kernel) hR, C0.2.2.2.2.1 _ mw_812, C0.2.2.2.2.1 _ mw_813⟩
theorem cs_M_35 (C0 : Cx G p s m args c cc nL "BoxDrawerModel" meth) (hR : k + 1 ≤ R.frames ∧ 8 + (3 + 11) + 40 * k ≤ R.locals) : CallB R s args "BoxDrawerModel" 35 y_M_within c_M_within 3 (some .boolean) ws_M_within (rmK k mc ms) mc ms 3 ∧ (Cond.static y_M_within).before args s = true :=
  ⟨cB C0 mw_730 mw_728 mw_5 (by decide +kernel) hR, C0.2.2.2.2.1 _ mw_729⟩
theorem cs_M_39 (C0 : Cx G p s m args c cc nL "BoxDrawerModel" meth) (hR : k + 1 ≤ R.frames ∧ 8 + (1 + 11) + 40 * k ≤ R.locals) : CallB R s args "BoxDrawerModel" 39 y_M_isFar c_M_isFar 1 (some .boolean) ws_M_isFar (rmK k mc ms) mc ms 1 ∧ (Cond.static y_M_isFar).before args s = true :=
  ⟨cB C0 mw_740 mw_738 mw_5 (by decide +kernel) hR, C0.2.2.2.2.1 _ mw_739⟩
theorem cs_M_47 (C0 : Cx G p s m args c cc nL "BoxDrawerModel" meth) (hR : k + 1 ≤ R.frames ∧ 8 + (4 + 11) + 40 * k ≤ R.locals) : CallB R s args "BoxDrawerModel" 47 y_M_areBounds c_M_areBounds 4 (some .boolean) ws_M_areBounds (rmK k mc ms) mc ms 4 ∧ (Cond.static y_M_areBounds).before args s = true :=
  ⟨cB C0 mw_737 mw_735 mw_5 (by decide +kernel) hR, C0.2.2.2.2.1 _ mw_736⟩
theorem cs_M_68 (C0 : Cx G p s m args c cc nL "BoxDrawerModel" meth) (hR : k + 1 ≤ R.frames ∧ 8 + (6 + 11) + 40 * k ≤ R.locals) : CallB R s args "BoxDrawerModel" 68 y_M_gap c_M_gap 6 (some .long) ws_M_gap (rmK k mc ms) mc ms 3 ∧ (Cond.static y_M_gap).before args s = true :=
  ⟨cB C0 mw_782 mw_780 mw_5 (by decide +kernel) hR, C0.2.2.2.2.1 _ mw_781⟩
theorem cs_M_43 (C0 : Cx G p s m args c cc nL "BoxDrawerModel" meth) (hR : k + 1 ≤ R.frames ∧ 8 + (2 + 11) + 40 * k ≤ R.locals) : CallW R s args "BoxDrawerModel" "BoxDrawerModel" 43 y_M_fail c_M_fail 2 (some .int) ws_M_fail (rmK k mc ms) mc ms 1 :=
  ⟨cB C0 mw_734 mw_731 mw_5 (by decide +kernel) hR, C0.2.2.2.2.1 _ mw_733, C0.2.2.2.2.1 _ msel_18⟩
theorem cs_M_51 (C0 : Cx G p s m args c cc nL "BoxDrawerModel" meth) (hR : k + 1 ≤ R.frames ∧ 8 + (3 + 11) + 40 * k ≤ R.locals) : CallW R s args "BoxDrawerModel" "BoxDrawerModel" 51 y_M_many c_M_many 3 (some .int) ws_M_many (rmK k mc ms) mc ms 0 :=
  ⟨cB C0 mw_754 mw_751 mw_5 (by decide +kernel) hR, C0.2.2.2.2.1 _ mw_753, C0.2.2.2.2.1 _ msel_19⟩
theorem cs_M_58 (C0 : Cx G p s m args c cc nL "BoxDrawerModel" meth) (hR : k + 1 ≤ R.frames ∧ 8 + (6 + 11) + 40 * k ≤ R.locals) : CallW R s args "BoxDrawerModel" "BoxDrawerModel" 58 y_M_meets c_M_meets 6 (some .boolean) ws_M_meets (rmK k mc ms) mc ms 5 :=
  ⟨cB C0 mw_762 mw_759 mw_5 (by decide +kernel) hR, C0.2.2.2.2.1 _ mw_761, C0.2.2.2.2.1 _ msel_20⟩
theorem cs_M_62 (C0 : Cx G p s m args c cc nL "BoxDrawerModel" meth) (hR : k + 1 ≤ R.frames ∧ 8 + (6 + 11) + 40 * k ≤ R.locals) : CallW R s args "BoxDrawerModel" "BoxDrawerModel" 62 y_M_lies c_M_lies 6 (some .boolean) ws_M_lies (rmK k mc ms) mc ms 5 :=
  ⟨cB C0 mw_766 mw_763 mw_5 (by decide +kernel) hR, C0.2.2.2.2.1 _ mw_765, C0.2.2.2.2.1 _ msel_21⟩
theorem cs_M_65 (C0 : Cx G p s m args c cc nL "BoxDrawerModel" meth) (hR : k + 1 ≤ R.frames ∧ 8 + (6 + 11) + 40 * k ≤ R.locals) : CallW R s args "BoxDrawerModel" "BoxDrawerModel" 65 y_M_has c_M_has 6 (some .boolean) ws_M_has (rmK k mc ms) mc ms 5 :=
  ⟨cB C0 mw_770 mw_767 mw_5 (by decide +kernel) hR, C0.2.2.2.2.1 _ mw_769, C0.2.2.2.2.1 _ msel_22⟩
theorem cs_M_74 (C0 : Cx G p s m args c cc nL "BoxDrawerModel" meth) (hR : k + 1 ≤ R.frames ∧ 8 + (8 + 11) + 40 * k ≤ R.locals) : CallW R s args "BoxDrawerModel" "BoxDrawerModel" 74 y_M_away c_M_away 8 (some .long) ws_M_away (rmK k mc ms) mc ms 3 :=
  ⟨cB C0 mw_779 mw_776 mw_5 (by decide +kernel) hR, C0.2.2.2.2.1 _ mw_778, C0.2.2.2.2.1 _ msel_23⟩
theorem cs_M_78 (C0 : Cx G p s m args c cc nL "BoxDrawerModel" meth) (hR : k + 1 ≤ R.frames ∧ 8 + (2 + 11) + 40 * k ≤ R.locals) : CallW R s args "BoxDrawerModel" "BoxDrawerModel" 78 y_M_isThere c_M_isThere 2 (some .boolean) ws_M_isThere (rmK k mc ms) mc ms 1 :=
  ⟨cB C0 mw_794 mw_791 mw_5 (by decide +kernel) hR, C0.2.2.2.2.1 _ mw_793, C0.2.2.2.2.1 _ msel_24⟩
theorem cs_M_81 (C0 : Cx G p s m args c cc nL "BoxDrawerModel" meth) (hR : k + 1 ≤ R.frames ∧ 8 + (3 + 11) + 40 * k ≤ R.locals) : CallW R s args "BoxDrawerModel" "BoxDrawerModel" 81 y_M_bound c_M_bound 3 (some .int) ws_M_bound (rmK k mc ms) mc ms 2 :=
  ⟨cB C0 mw_802 mw_799 mw_5 (by decide +kernel) hR, C0.2.2.2.2.1 _ mw_801, C0.2.2.2.2.1 _ msel_25⟩
theorem cs_AL_1 (C0 : Cx G p s m args c cc nL "java/util/AbstractList" meth) (hR : k + 1 ≤ R.frames ∧ 8 + (1 + 11) + 40 * k ≤ R.locals) : CallB R s args "java/util/AbstractList" 1 y_AC_init c_AC_init 1 none ws_AC_init (rmK k mc ms) mc ms 0 ∧ y_AC_init.name = "<init>" ∧ (Cond.instanceMethod y_AC_init).before args s = true :=
  ⟨cB C0 mw_43 mw_41 mw_2 (by decide +kernel) hR, rfl, C0.2.2.2.2.1 _ mw_42⟩
theorem cs_A_1 (C0 : Cx G p s m args c cc nL "java/util/ArrayList" meth) (hR : k + 1 ≤ R.frames ∧ 8 + (1 + 11) + 40 * k ≤ R.locals) : CallB R s args "java/util/ArrayList" 1 y_AL_init c_AL_init 1 none ws_AL_init (rmK k mc ms) mc ms 0 ∧ y_AL_init.name = "<init>" ∧ (Cond.instanceMethod y_AL_init).before args s = true :=
  ⟨cB C0 mw_40 mw_38 mw_3 (by decide +kernel) hR, rfl, C0.2.2.2.2.1 _ mw_39⟩
theorem cs_A_66 (C0 : Cx G p s m args c cc nL "java/util/ArrayList" meth) (hR : k + 1 ≤ R.frames ∧ 8 + (2 + 11) + 40 * k ≤ R.locals) : CallB R s args "java/util/ArrayList" 66 y_R_copyOf3 c_R_copyOf3 2 (some (.array (.object "java/lang/Object"))) ws_R_copyOf3 (rmK k mc ms) mc ms 2 ∧ (Cond.static y_R_copyOf3).before args s = true :=
  ⟨cB C0 mw_541 mw_539 mw_20 (by decide +kernel) hR, C0.2.2.2.2.1 _ mw_540⟩
theorem cs_A_73 (C0 : Cx G p s m args c cc nL "java/util/ArrayList" meth) (hR : k + 1 ≤ R.frames ∧ 8 + (4 + 11) + 40 * k ≤ R.locals) : CallB R s args "java/util/ArrayList" 73 y_S_newLength c_S_newLength 4 (some .int) ws_S_newLength (rmK k mc ms) mc ms 3 ∧ (Cond.static y_S_newLength).before args s = true :=
  ⟨cB C0 mw_346 mw_538 mw_18 (by decide +kernel) hR, C0.2.2.2.2.1 _ mw_345⟩
theorem cs_A_118 (C0 : Cx G p s m args c cc nL "java/util/ArrayList" meth) (hR : k + 1 ≤ R.frames ∧ 8 + (2 + 11) + 40 * k ≤ R.locals) : CallB R s args "java/util/ArrayList" 118 y_O_checkIndex c_O_checkIndex 2 (some .int) ws_O_checkIndex (rmK k mc ms) mc ms 2 ∧ (Cond.static y_O_checkIndex).before args s = true :=
  ⟨cB C0 mw_96 mw_94 mw_12 (by decide +kernel) hR, C0.2.2.2.2.1 _ mw_95⟩
theorem cs_A_69 (C0 : Cx G p s m args c cc nL "java/util/ArrayList" meth) (hR : k + 1 ≤ R.frames ∧ 8 + (4 + 11) + 40 * k ≤ R.locals) : CallW R s args "java/util/ArrayList" "java/util/ArrayList" 69 y_A_grow2 c_A_grow2 4 (some (.array (.object "java/lang/Object"))) ws_A_grow2 (rmK k mc ms) mc ms 1 :=
  ⟨cB C0 mw_537 mw_534 mw_4 (by decide +kernel) hR, C0.2.2.2.2.1 _ mw_536, C0.2.2.2.2.1 _ msel_9⟩
theorem cs_A_123 (C0 : Cx G p s m args c cc nL "java/util/ArrayList" meth) (hR : k + 1 ≤ R.frames ∧ 8 + (2 + 11) + 40 * k ≤ R.locals) : CallW R s args "java/util/ArrayList" "java/util/ArrayList" 123 y_A_elementData c_A_elementData 2 (some (.object "java/lang/Object")) ws_A_elementData (rmK k mc ms) mc ms 1 :=
  ⟨cB C0 mw_103 mw_100 mw_4 (by decide +kernel) hR, C0.2.2.2.2.1 _ mw_101, C0.2.2.2.2.1 _ mw_102⟩
theorem cs_A_129 (C0 : Cx G p s m args c cc nL "java/util/ArrayList" meth) (hR : k + 1 ≤ R.frames ∧ 8 + (1 + 11) + 40 * k ≤ R.locals) : CallW R s args "java/util/ArrayList" "java/util/ArrayList" 129 y_A_grow c_A_grow 1 (some (.array (.object "java/lang/Object"))) ws_A_grow (rmK k mc ms) mc ms 0 :=
  ⟨cB C0 mw_533 mw_530 mw_4 (by decide +kernel) hR, C0.2.2.2.2.1 _ mw_532, C0.2.2.2.2.1 _ msel_8⟩
theorem cs_A_135 (C0 : Cx G p s m args c cc nL "java/util/ArrayList" meth) (hR : k + 1 ≤ R.frames ∧ 8 + (2 + 11) + 40 * k ≤ R.locals) : CallW R s args "java/util/ArrayList" "java/util/ArrayList" 135 y_A_rangeCheckForAdd c_A_rangeCheckForAdd 2 none ws_A_rangeCheckForAdd (rmK k mc ms) mc ms 1 :=
  ⟨cB C0 mw_287 mw_284 mw_4 (by decide +kernel) hR, C0.2.2.2.2.1 _ mw_286, C0.2.2.2.2.1 _ msel_6⟩
theorem cs_A_144 (C0 : Cx G p s m args c cc nL "java/util/ArrayList" meth) (hR : k + 1 ≤ R.frames ∧ 8 + (4 + 11) + 40 * k ≤ R.locals) : CallW R s args "java/util/ArrayList" "java/util/ArrayList" 144 y_A_fastRemove c_A_fastRemove 4 none ws_A_fastRemove (rmK k mc ms) mc ms 2 :=
  ⟨cB C0 mw_578 mw_575 mw_4 (by decide +kernel) hR, C0.2.2.2.2.1 _ mw_577, C0.2.2.2.2.1 _ msel_10⟩
theorem cs_R_300 (C0 : Cx G p s m args c cc nL "java/util/Arrays" meth) (hR : k + 1 ≤ R.frames ∧ 8 + (4 + 11) + 40 * k ≤ R.locals) : CallB R s args "java/util/Arrays" 300 y_R_copyOf4 c_R_copyOf4 4 (some (.array (.object "java/lang/Object"))) ws_R_copyOf4 (rmK k mc ms) mc ms 3 ∧ (Cond.static y_R_copyOf4).before args s = true :=
  ⟨cB C0 mw_557 mw_555 mw_20 (by decide +kernel) hR, C0.2.2.2.2.1 _ mw_556⟩
theorem cs_O_105 (C0 : Cx G p s m args c cc nL "java/util/Objects" meth) (hR : k + 1 ≤ R.frames ∧ 8 + (3 + 11) + 40 * k ≤ R.locals) : CallB R s args "java/util/Objects" 105 y_P_checkIndex c_P_checkIndex 3 (some .int) ws_P_checkIndex (rmK k mc ms) mc ms 3 ∧ (Cond.static y_P_checkIndex).before args s = true :=
  ⟨cB C0 mw_99 mw_97 mw_13 (by decide +kernel) hR, C0.2.2.2.2.1 _ mw_98⟩
end Sites
theorem at_io : ∀ w ∈ vx_atS "BoxDrawer" 148 "java/lang/IndexOutOfBoundsException" ["java/lang/RuntimeException", "java/lang/Exception"], w ∈ big ∨ w ∈ nbw := by decide +kernel
theorem og_io : ∀ w ∈ Cond.classLink "BoxDrawer" 144 "java/lang/IndexOutOfBoundsException" :: Cond.initialized "java/lang/IndexOutOfBoundsException" :: vx_atS "BoxDrawer" 148 "java/lang/IndexOutOfBoundsException" ["java/lang/RuntimeException", "java/lang/Exception"], vx_ot w = true := by decide +kernel
theorem at_ia : ∀ w ∈ vx_atS "BoxDrawer" 72 "java/lang/IllegalArgumentException" ["java/lang/RuntimeException", "java/lang/Exception"], w ∈ big ∨ w ∈ nbw := by decide +kernel
theorem og_ia : ∀ w ∈ Cond.classLink "BoxDrawer" 68 "java/lang/IllegalArgumentException" :: Cond.initialized "java/lang/IllegalArgumentException" :: vx_atS "BoxDrawer" 72 "java/lang/IllegalArgumentException" ["java/lang/RuntimeException", "java/lang/Exception"], vx_ot w = true := by decide +kernel
theorem at_is : ∀ w ∈ vx_atS "BoxDrawer" 133 "java/lang/IllegalStateException" ["java/lang/RuntimeException", "java/lang/Exception"], w ∈ big ∨ w ∈ nbw := by decide +kernel
theorem og_is : ∀ w ∈ Cond.classLink "BoxDrawer" 129 "java/lang/IllegalStateException" :: Cond.initialized "java/lang/IllegalStateException" :: vx_atS "BoxDrawer" 133 "java/lang/IllegalStateException" ["java/lang/RuntimeException", "java/lang/Exception"], vx_ot w = true := by decide +kernel
end
section
/-! Leaves: what the library's small members and the boxes' own methods answer -/
section PuRows
variable {p : Program} {l : Launch} {e : Env} {R : Room} {s : State} {m : MethodId} {args : Array Value} {below : List Frame} {meth : Method} {c : Code} {H : Heap} {locs : List Loc} {cells slots : Nat} {Q : State → Prop}
variable {st0 rest : List Value} {pc : Nat} {ls : Array Slot} {as0 : Array Value}
theorem pu_v {v : Value} (hr : va_Run p l e R s m args below meth c H locs cells slots 0 0 (F0 m pc ls st0) rest (PuQ (some v) as0) (fun _ => False))
    (kk : W p l e R s m args below meth c H locs cells slots Q (F0 m (pc + 3) ls (v :: rest))) : W p l e R s m args below meth c H locs cells slots Q (F0 m pc ls st0) := pu_goon hr kk
theorem pu_n (hr : va_Run p l e R s m args below meth c H locs cells slots 0 0 (F0 m pc ls st0) rest (PuQ none as0) (fun _ => False))
    (kk : W p l e R s m args below meth c H locs cells slots Q (F0 m (pc + 3) ls rest)) : W p l e R s m args below meth c H locs cells slots Q (F0 m pc ls st0) := pu_goon hr kk
end PuRows

set_option maxHeartbeats 4000000 in
set_option maxRecDepth 100000 in
theorem k_A_size (l : Launch) (G : Gl) (w : World) {L E : Nat} {md n : Int32} (hw : w L = some (.inr (0, [.int md, .ref E, .int n]))) :
    PuM l y_A_size ws_A_size 0 G w [.ref L] (some (.int n)) := by
  refine met_ent (by decide +kernel) (Nat.le_of_ble_eq_true rfl) (fun p e s m below meth c ls C0 hr hin hH hl => ?_)
  have hx := C0.1
  have hb := C0.2.1
  have hS : va_S (gA G) s.heap s.heap [] := va_S.rf
  have hl : lv_has ls 1 [(0, .ref L)] := hl
  refine lv_aload_n hx hb d_A_size_0 rfl (lv_at hl 0 rfl) ?_
  refine gf_A_48 C0 hH hw rfl d_A_size_1 ?_
  exact W.iret hx hb hr (fun t ht _ => ⟨rfl, ht⟩) (fun _ h => by cases h) d_A_size_4 (hlocks := C0.2.2.2.2.2.2)

set_option maxHeartbeats 4000000 in
set_option maxRecDepth 100000 in
theorem k_A_isEmpty (l : Launch) (G : Gl) (w : World) {L E : Nat} {md n : Int32} (hw : w L = some (.inr (0, [.int md, .ref E, .int n]))) :
    PuM l y_A_isEmpty ws_A_isEmpty 0 G w [.ref L] (some (.int (if n = 0 then 1 else 0))) := by
  refine met_ent (by decide +kernel) (Nat.le_of_ble_eq_true rfl) (fun p e s m below meth c ls C0 hr hin hH hl => ?_)
  have hx := C0.1
  have hb := C0.2.1
  have hS : va_S (gA G) s.heap s.heap [] := va_S.rf
  have hl : lv_has ls 1 [(0, .ref L)] := hl
  refine lv_aload_n hx hb d_A_isEmpty_0 rfl (lv_at hl 0 rfl) ?_
  refine gf_A_48 C0 hH hw rfl d_A_isEmpty_1 ?_
  refine lv_if_ne (tgt := 11) hx hb d_A_isEmpty_4 (by decide) (fun c_4 => ?_) (fun c_4 => ?_)
  · refine lv_iconst (v := 0) hx hb d_A_isEmpty_11 (by decide) ?_
    exact W.zret hx hb hr rfl (fun t ht _ => ⟨by rw [if_neg c_4], ht⟩) (fun _ h => by cases h) d_A_isEmpty_12 (hlocks := C0.2.2.2.2.2.2)
  · refine lv_iconst (v := 1) hx hb d_A_isEmpty_7 (by decide) ?_
    refine lv_goto (tgt := 12) hx hb d_A_isEmpty_8 (by decide) ?_
    exact W.zret hx hb hr rfl (fun t ht _ => ⟨by rw [if_pos c_4], ht⟩) (fun _ h => by cases h) d_A_isEmpty_12 (hlocks := C0.2.2.2.2.2.2)

set_option maxHeartbeats 4000000 in
set_option maxRecDepth 100000 in
theorem k_P_checkIndex (l : Launch) (G : Gl) (w : World) {i n : Int32} (h1 : ¬ i < 0) (h2 : i < n) :
    PuM l y_P_checkIndex ws_P_checkIndex 0 G w [.int i, .int n, .null] (some (.int i)) := by
  refine met_ent (by decide +kernel) (Nat.le_of_ble_eq_true rfl) (fun p e s m below meth c ls C0 hr hin hH hl => ?_)
  have hx := C0.1
  have hb := C0.2.1
  have hS : va_S (gA G) s.heap s.heap [] := va_S.rf
  have hl : lv_has ls 3 [(0, .int i), (1, .int n), (2, .null)] := hl
  refine lv_iload_n hx hb d_P_checkIndex_0 rfl (lv_at hl 0 rfl) ?_
  refine lv_if_lt (tgt := 9) hx hb d_P_checkIndex_1 (by decide) (fun c_1 => ?_) (fun c_1 => ?_)
  · exact absurd c_1 h1
  · refine lv_iload_n hx hb d_P_checkIndex_4 rfl (lv_at hl 0 rfl) ?_
    refine lv_iload_n hx hb d_P_checkIndex_5 rfl (lv_at hl 1 rfl) ?_
    refine lv_icmp_lt (tgt := 16) hx hb d_P_checkIndex_6 (by decide) (fun c_6 => ?_) (fun c_6 => ?_)
    · refine lv_iload_n hx hb d_P_checkIndex_16 rfl (lv_at hl 0 rfl) ?_
      exact W.iret hx hb hr (fun t ht _ => ⟨rfl, ht⟩) (fun _ h => by cases h) d_P_checkIndex_17 (hlocks := C0.2.2.2.2.2.2)
    · exact absurd h2 c_6

set_option maxHeartbeats 4000000 in
set_option maxRecDepth 100000 in
theorem k_O_checkIndex (l : Launch) (G : Gl) (w : World) {i n : Int32} (h1 : ¬ i < 0) (h2 : i < n) :
    PuM l y_O_checkIndex ws_O_checkIndex 1 G w [.int i, .int n] (some (.int i)) := by
  refine met_ent (by decide +kernel) (Nat.le_of_ble_eq_true rfl) (fun p e s m below meth c ls C0 hr hin hH hl => ?_)
  have hx := C0.1
  have hb := C0.2.1
  have hS : va_S (gA G) s.heap s.heap [] := va_S.rf
  have hl : lv_has ls 2 [(0, .int i), (1, .int n)] := hl
  refine lv_iload_n hx hb d_O_checkIndex_0 rfl (lv_at hl 0 rfl) ?_
  refine lv_iload_n hx hb d_O_checkIndex_1 rfl (lv_at hl 1 rfl) ?_
  refine lv_null hx hb d_O_checkIndex_2 ?_
  refine pu_v (runS C0 (k_P_checkIndex l G w h1 h2) (cs_O_105 C0 ⟨by decide, by decide⟩) hH hS rfl hl.1 rfl (lv_room (Nat.le_of_ble_eq_true rfl)) d_O_checkIndex_3 ⟨Nat.zero_le _, Nat.zero_le _⟩) ?_
  exact W.iret hx hb hr (fun t ht _ => ⟨rfl, ht⟩) (fun _ h => by cases h) d_O_checkIndex_6 (hlocks := C0.2.2.2.2.2.2)

set_option maxHeartbeats 4000000 in
set_option maxRecDepth 100000 in
theorem k_A_elementData (l : Launch) (G : Gl) (w : World) {L E N i x : Nat} {md n : Int32} {f : Nat → Option Nat} (hw : w L = some (.inr (0, [.int md, .ref E, .int n]))) (hE : w E = some (.inl (G.2.1.2.2.2, N, .inr (.inr (.inr (.inr f)))))) (hi : i < N) (hN : N < 2 ^ 31) (hf : f i = some x) :
    PuM l y_A_elementData ws_A_elementData 0 G w [.ref L, .int (nI i)] (some (.ref x)) := by
  refine met_ent (by decide +kernel) (Nat.le_of_ble_eq_true rfl) (fun p e s m below meth c ls C0 hr hin hH hl => ?_)
  have hx := C0.1
  have hb := C0.2.1
  have hS : va_S (gA G) s.heap s.heap [] := va_S.rf
  have hl : lv_has ls 2 [(0, .ref L), (1, .int (nI i))] := hl
  refine lv_aload_n hx hb d_A_elementData_0 rfl (lv_at hl 0 rfl) ?_
  refine gf_A_9 C0 hH hw rfl d_A_elementData_1 ?_
  refine lv_iload_n hx hb d_A_elementData_4 rfl (lv_at hl 1 rfl) ?_
  refine hd_aldq hx hb C0.hK hH 3 hE rfl (vp_in_nI hi hN) d_A_elementData_5 ?_
  rw [nI_clamp (by omega), hf]
  exact W.aret hx hb hr (Or.inl ⟨_, rfl⟩) (Or.inr ⟨_, rfl⟩) (fun t ht _ => ⟨rfl, ht⟩) (fun _ h => by cases h) d_A_elementData_6 (hlocks := C0.2.2.2.2.2.2)

set_option maxHeartbeats 4000000 in
set_option maxRecDepth 100000 in
theorem k_A_get (l : Launch) (G : Gl) (w : World) {L E N i k x : Nat} {md : Int32} {f : Nat → Option Nat} (hw : w L = some (.inr (0, [.int md, .ref E, .int (nI k)]))) (hE : w E = some (.inl (G.2.1.2.2.2, N, .inr (.inr (.inr (.inr f)))))) (hi : i < k) (hk : k ≤ N) (hN : N < 2 ^ 31) (hf : f i = some x) :
    PuM l y_A_get ws_A_get 2 G w [.ref L, .int (nI i)] (some (.ref x)) := by
  refine met_ent (by decide +kernel) (Nat.le_of_ble_eq_true rfl) (fun p e s m below meth c ls C0 hr hin hH hl => ?_)
  have hx := C0.1
  have hb := C0.2.1
  have hS : va_S (gA G) s.heap s.heap [] := va_S.rf
  have hl : lv_has ls 2 [(0, .ref L), (1, .int (nI i))] := hl
  refine lv_iload_n hx hb d_A_get_0 rfl (lv_at hl 1 rfl) ?_
  refine lv_aload_n hx hb d_A_get_1 rfl (lv_at hl 0 rfl) ?_
  refine gf_A_48 C0 hH hw rfl d_A_get_2 ?_
  refine pu_v (runS C0 (k_O_checkIndex l G w (nI_pos (by omega)) (nI_lt hi (by omega))) (cs_A_118 C0 ⟨by decide, by decide⟩) hH hS rfl hl.1 rfl (lv_room (Nat.le_of_ble_eq_true rfl)) d_A_get_5 ⟨Nat.zero_le _, Nat.zero_le _⟩) ?_
  refine lv_pop hx hb d_A_get_8 rfl ?_
  refine lv_aload_n hx hb d_A_get_9 rfl (lv_at hl 0 rfl) ?_
  refine lv_iload_n hx hb d_A_get_10 rfl (lv_at hl 1 rfl) ?_
  refine pu_v (runV C0 (k_A_elementData l G w hw hE (by omega) hN hf) (cs_A_123 C0 ⟨by decide, by decide⟩) hH hS (hd_recv C0.hK hH rfl hw) rfl hl.1 rfl (lv_room (Nat.le_of_ble_eq_true rfl)) d_A_get_11 ⟨Nat.zero_le _, Nat.zero_le _⟩) ?_
  exact W.aret hx hb hr (Or.inl ⟨_, rfl⟩) (Or.inr ⟨_, rfl⟩) (fun t ht _ => ⟨rfl, ht⟩) (fun _ h => by cases h) d_A_get_14 (hlocks := C0.2.2.2.2.2.2)

/-- a box: number, least x, least y, greatest x, greatest y -/
abbrev Bx : Type := Int32 × Int32 × Int32 × Int32 × Int32
abbrev bxf (a : Bx) : List Value := [.int a.1, .int a.2.1, .int a.2.2.1, .int a.2.2.2.1, .int a.2.2.2.2]
def bMeets (a b : Bx) : Prop := a.2.1 ≤ b.2.2.2.1 ∧ b.2.1 ≤ a.2.2.2.1 ∧ a.2.2.1 ≤ b.2.2.2.2 ∧ b.2.2.1 ≤ a.2.2.2.2
def bIn (a b : Bx) : Prop := b.2.1 ≤ a.2.1 ∧ a.2.2.2.1 ≤ b.2.2.2.1 ∧ b.2.2.1 ≤ a.2.2.1 ∧ a.2.2.2.2 ≤ b.2.2.2.2
noncomputable def b01 (P : Prop) : Int32 := by
  classical
  exact if P then 1 else 0
theorem b01_t {P : Prop} (h : P) : b01 P = 1 := if_pos h
theorem b01_f {P : Prop} (h : ¬ P) : b01 P = 0 := if_neg h
theorem b01_nar {P : Prop} : narrow .boolean (.int (b01 P)) = .int (b01 P) := by
  by_cases h : P
  · rw [b01_t h]; rfl
  · rw [b01_f h]; rfl
def wayZ (v lo hi : Int) : Int := if v < lo then lo - v else if hi < v then v - hi else 0
def bDist (a : Bx) (x y : Int32) : Int := wayZ x.toInt a.2.1.toInt a.2.2.2.1.toInt * wayZ x.toInt a.2.1.toInt a.2.2.2.1.toInt + wayZ y.toInt a.2.2.1.toInt a.2.2.2.2.toInt * wayZ y.toInt a.2.2.1.toInt a.2.2.2.2.toInt

set_option maxHeartbeats 4000000 in
set_option maxRecDepth 100000 in
theorem k_X_meets (l : Launch) (G : Gl) (w : World) {x y : Nat} {a b : Bx} (hx1 : w x = some (.inr (1, bxf a))) (hy1 : w y = some (.inr (1, bxf b))) :
    PuM l y_X_meets ws_X_meets 0 G w [.ref x, .ref y] (some (.int (b01 (bMeets a b)))) := by
  refine met_ent (by decide +kernel) (Nat.le_of_ble_eq_true rfl) (fun p e s m below meth c ls C0 hr hin hH hl => ?_)
  have hx := C0.1
  have hb := C0.2.1
  have hS : va_S (gA G) s.heap s.heap [] := va_S.rf
  have hl : lv_has ls 2 [(0, .ref x), (1, .ref y)] := hl
  refine lv_aload_n hx hb d_X_meets_0 rfl (lv_at hl 0 rfl) ?_
  refine gf_X_15 C0 hH hx1 rfl d_X_meets_1 ?_
  refine lv_aload_n hx hb d_X_meets_4 rfl (lv_at hl 1 rfl) ?_
  refine gf_X_21 C0 hH hy1 rfl d_X_meets_5 ?_
  refine lv_icmp_gt (tgt := 48) hx hb d_X_meets_8 (by decide) (fun c_8 => ?_) (fun c_8 => ?_)
  · refine lv_iconst (v := 0) hx hb d_X_meets_48 (by decide) ?_
    exact W.zret hx hb hr rfl (fun t ht _ => ⟨congrArg (fun z => Outcome.returned (some (Value.int z))) (b01_f (by unfold bMeets; revert c_8; simp only [Int32.le_iff_toInt_le, Int32.lt_iff_toInt_lt]; omega)).symm, ht⟩) (fun _ h => by cases h) d_X_meets_49 (hlocks := C0.2.2.2.2.2.2)
  · refine lv_aload_n hx hb d_X_meets_11 rfl (lv_at hl 1 rfl) ?_
    refine gf_X_15 C0 hH hy1 rfl d_X_meets_12 ?_
    refine lv_aload_n hx hb d_X_meets_15 rfl (lv_at hl 0 rfl) ?_
    refine gf_X_21 C0 hH hx1 rfl d_X_meets_16 ?_
    refine lv_icmp_gt (tgt := 48) hx hb d_X_meets_19 (by decide) (fun c_19 => ?_) (fun c_19 => ?_)
    · refine lv_iconst (v := 0) hx hb d_X_meets_48 (by decide) ?_
      exact W.zret hx hb hr rfl (fun t ht _ => ⟨congrArg (fun z => Outcome.returned (some (Value.int z))) (b01_f (by unfold bMeets; revert c_19 c_8; simp only [Int32.le_iff_toInt_le, Int32.lt_iff_toInt_lt]; omega)).symm, ht⟩) (fun _ h => by cases h) d_X_meets_49 (hlocks := C0.2.2.2.2.2.2)
    · refine lv_aload_n hx hb d_X_meets_22 rfl (lv_at hl 0 rfl) ?_
      refine gf_X_18 C0 hH hx1 rfl d_X_meets_23 ?_
      refine lv_aload_n hx hb d_X_meets_26 rfl (lv_at hl 1 rfl) ?_
      refine gf_X_24 C0 hH hy1 rfl d_X_meets_27 ?_
      refine lv_icmp_gt (tgt := 48) hx hb d_X_meets_30 (by decide) (fun c_30 => ?_) (fun c_30 => ?_)
      · refine lv_iconst (v := 0) hx hb d_X_meets_48 (by decide) ?_
        exact W.zret hx hb hr rfl (fun t ht _ => ⟨congrArg (fun z => Outcome.returned (some (Value.int z))) (b01_f (by unfold bMeets; revert c_30 c_19 c_8; simp only [Int32.le_iff_toInt_le, Int32.lt_iff_toInt_lt]; omega)).symm, ht⟩) (fun _ h => by cases h) d_X_meets_49 (hlocks := C0.2.2.2.2.2.2)
      · refine lv_aload_n hx hb d_X_meets_33 rfl (lv_at hl 1 rfl) ?_
        refine gf_X_18 C0 hH hy1 rfl d_X_meets_34 ?_
        refine lv_aload_n hx hb d_X_meets_37 rfl (lv_at hl 0 rfl) ?_
        refine gf_X_24 C0 hH hx1 rfl d_X_meets_38 ?_
        refine lv_icmp_gt (tgt := 48) hx hb d_X_meets_41 (by decide) (fun c_41 => ?_) (fun c_41 => ?_)
        · refine lv_iconst (v := 0) hx hb d_X_meets_48 (by decide) ?_
          exact W.zret hx hb hr rfl (fun t ht _ => ⟨congrArg (fun z => Outcome.returned (some (Value.int z))) (b01_f (by unfold bMeets; revert c_41 c_30 c_19 c_8; simp only [Int32.le_iff_toInt_le, Int32.lt_iff_toInt_lt]; omega)).symm, ht⟩) (fun _ h => by cases h) d_X_meets_49 (hlocks := C0.2.2.2.2.2.2)
        · refine lv_iconst (v := 1) hx hb d_X_meets_44 (by decide) ?_
          refine lv_goto (tgt := 49) hx hb d_X_meets_45 (by decide) ?_
          exact W.zret hx hb hr rfl (fun t ht _ => ⟨congrArg (fun z => Outcome.returned (some (Value.int z))) (b01_t (by unfold bMeets; revert c_41 c_30 c_19 c_8; simp only [Int32.le_iff_toInt_le, Int32.lt_iff_toInt_lt]; omega)).symm, ht⟩) (fun _ h => by cases h) d_X_meets_49 (hlocks := C0.2.2.2.2.2.2)

set_option maxHeartbeats 4000000 in
set_option maxRecDepth 100000 in
theorem k_X_liesIn (l : Launch) (G : Gl) (w : World) {x y : Nat} {a b : Bx} (hx1 : w x = some (.inr (1, bxf a))) (hy1 : w y = some (.inr (1, bxf b))) :
    PuM l y_X_liesIn ws_X_liesIn 0 G w [.ref x, .ref y] (some (.int (b01 (bIn a b)))) := by
  refine met_ent (by decide +kernel) (Nat.le_of_ble_eq_true rfl) (fun p e s m below meth c ls C0 hr hin hH hl => ?_)
  have hx := C0.1
  have hb := C0.2.1
  have hS : va_S (gA G) s.heap s.heap [] := va_S.rf
  have hl : lv_has ls 2 [(0, .ref x), (1, .ref y)] := hl
  refine lv_aload_n hx hb d_X_liesIn_0 rfl (lv_at hl 1 rfl) ?_
  refine gf_X_15 C0 hH hy1 rfl d_X_liesIn_1 ?_
  refine lv_aload_n hx hb d_X_liesIn_4 rfl (lv_at hl 0 rfl) ?_
  refine gf_X_15 C0 hH hx1 rfl d_X_liesIn_5 ?_
  refine lv_icmp_gt (tgt := 48) hx hb d_X_liesIn_8 (by decide) (fun c_8 => ?_) (fun c_8 => ?_)
  · refine lv_iconst (v := 0) hx hb d_X_liesIn_48 (by decide) ?_
    exact W.zret hx hb hr rfl (fun t ht _ => ⟨congrArg (fun z => Outcome.returned (some (Value.int z))) (b01_f (by unfold bIn; revert c_8; simp only [Int32.le_iff_toInt_le, Int32.lt_iff_toInt_lt]; omega)).symm, ht⟩) (fun _ h => by cases h) d_X_liesIn_49 (hlocks := C0.2.2.2.2.2.2)
  · refine lv_aload_n hx hb d_X_liesIn_11 rfl (lv_at hl 0 rfl) ?_
    refine gf_X_21 C0 hH hx1 rfl d_X_liesIn_12 ?_
    refine lv_aload_n hx hb d_X_liesIn_15 rfl (lv_at hl 1 rfl) ?_
    refine gf_X_21 C0 hH hy1 rfl d_X_liesIn_16 ?_
    refine lv_icmp_gt (tgt := 48) hx hb d_X_liesIn_19 (by decide) (fun c_19 => ?_) (fun c_19 => ?_)
    · refine lv_iconst (v := 0) hx hb d_X_liesIn_48 (by decide) ?_
      exact W.zret hx hb hr rfl (fun t ht _ => ⟨congrArg (fun z => Outcome.returned (some (Value.int z))) (b01_f (by unfold bIn; revert c_19 c_8; simp only [Int32.le_iff_toInt_le, Int32.lt_iff_toInt_lt]; omega)).symm, ht⟩) (fun _ h => by cases h) d_X_liesIn_49 (hlocks := C0.2.2.2.2.2.2)
    · refine lv_aload_n hx hb d_X_liesIn_22 rfl (lv_at hl 1 rfl) ?_
      refine gf_X_18 C0 hH hy1 rfl d_X_liesIn_23 ?_
      refine lv_aload_n hx hb d_X_liesIn_26 rfl (lv_at hl 0 rfl) ?_
      refine gf_X_18 C0 hH hx1 rfl d_X_liesIn_27 ?_
      refine lv_icmp_gt (tgt := 48) hx hb d_X_liesIn_30 (by decide) (fun c_30 => ?_) (fun c_30 => ?_)
      · refine lv_iconst (v := 0) hx hb d_X_liesIn_48 (by decide) ?_
        exact W.zret hx hb hr rfl (fun t ht _ => ⟨congrArg (fun z => Outcome.returned (some (Value.int z))) (b01_f (by unfold bIn; revert c_30 c_19 c_8; simp only [Int32.le_iff_toInt_le, Int32.lt_iff_toInt_lt]; omega)).symm, ht⟩) (fun _ h => by cases h) d_X_liesIn_49 (hlocks := C0.2.2.2.2.2.2)
      · refine lv_aload_n hx hb d_X_liesIn_33 rfl (lv_at hl 0 rfl) ?_
        refine gf_X_24 C0 hH hx1 rfl d_X_liesIn_34 ?_
        refine lv_aload_n hx hb d_X_liesIn_37 rfl (lv_at hl 1 rfl) ?_
        refine gf_X_24 C0 hH hy1 rfl d_X_liesIn_38 ?_
        refine lv_icmp_gt (tgt := 48) hx hb d_X_liesIn_41 (by decide) (fun c_41 => ?_) (fun c_41 => ?_)
        · refine lv_iconst (v := 0) hx hb d_X_liesIn_48 (by decide) ?_
          exact W.zret hx hb hr rfl (fun t ht _ => ⟨congrArg (fun z => Outcome.returned (some (Value.int z))) (b01_f (by unfold bIn; revert c_41 c_30 c_19 c_8; simp only [Int32.le_iff_toInt_le, Int32.lt_iff_toInt_lt]; omega)).symm, ht⟩) (fun _ h => by cases h) d_X_liesIn_49 (hlocks := C0.2.2.2.2.2.2)
        · refine lv_iconst (v := 1) hx hb d_X_liesIn_44 (by decide) ?_
          refine lv_goto (tgt := 49) hx hb d_X_liesIn_45 (by decide) ?_
          exact W.zret hx hb hr rfl (fun t ht _ => ⟨congrArg (fun z => Outcome.returned (some (Value.int z))) (b01_t (by unfold bIn; revert c_41 c_30 c_19 c_8; simp only [Int32.le_iff_toInt_le, Int32.lt_iff_toInt_lt]; omega)).symm, ht⟩) (fun _ h => by cases h) d_X_liesIn_49 (hlocks := C0.2.2.2.2.2.2)
end
section
/-! the boxes' other methods; what is refused -/
def way (v lo hi : Int32) : Int64 := if v < lo then lo.toInt64 - v.toInt64 else if hi < v then v.toInt64 - hi.toInt64 else 0
def bDst (a : Bx) (x y : Int32) : Int64 := way x a.2.1 a.2.2.2.1 * way x a.2.1 a.2.2.2.1 + way y a.2.2.1 a.2.2.2.2 * way y a.2.2.1 a.2.2.2.2
def bnd (a : Bx) (k : Int32) : Int32 := if k = 0 then a.2.1 else if k = 1 then a.2.2.1 else if k = 2 then a.2.2.2.1 else a.2.2.2.2
def fitsP (k : Int32) (a b : Bx) : Prop := if k = 0 then bMeets a b else if k = 1 then bIn a b else bIn b a
def okC (x : Int32) : Prop := -1000000000 ≤ x ∧ x ≤ 1000000000
def okP (x y : Int32) : Prop := okC x ∧ okC y
def okB (lx ly hx hy : Int32) : Prop := okP lx ly ∧ okP hx hy ∧ lx ≤ hx ∧ ly ≤ hy
def okN (b : Int32) : Prop := 0 ≤ b ∧ b < 4096
def okW (k : Int32) : Prop := 0 ≤ k ∧ k ≤ 3
theorem tI9 : (1000000000 : Int32).toInt = 1000000000 := by decide
theorem tIm9 : (-1000000000 : Int32).toInt = -1000000000 := by decide
theorem tI4096 : (4096 : Int32).toInt = 4096 := by decide
theorem tI3 : (3 : Int32).toInt = 3 := by decide
theorem tI2 : (2 : Int32).toInt = 2 := by decide
theorem tI1 : (1 : Int32).toInt = 1 := by decide
theorem tI0 : (0 : Int32).toInt = 0 := by decide
theorem tIne {x y : Int32} (h : ¬ x = y) : x.toInt ≠ y.toInt := fun q => h (Int32.toInt_inj.mp q)

set_option maxHeartbeats 4000000 in
set_option maxRecDepth 100000 in
theorem k_X_wayTo (l : Launch) (G : Gl) (w : World) (v lo hi : Int32) :
    PuM l y_X_wayTo ws_X_wayTo 0 G w [.int v, .int lo, .int hi] (some (.long (way v lo hi))) := by
  refine met_ent (by decide +kernel) (Nat.le_of_ble_eq_true rfl) (fun p e s m below meth c ls C0 hr hin hH hl => ?_)
  have hx := C0.1
  have hb := C0.2.1
  have hS : va_S (gA G) s.heap s.heap [] := va_S.rf
  have hl : lv_has ls 3 [(0, .int v), (1, .int lo), (2, .int hi)] := hl
  refine lv_iload_n hx hb d_X_wayTo_0 rfl (lv_at hl 0 rfl) ?_
  refine lv_iload_n hx hb d_X_wayTo_1 rfl (lv_at hl 1 rfl) ?_
  refine lv_icmp_ge (tgt := 11) hx hb d_X_wayTo_2 (by decide) (fun c_2 => ?_) (fun c_2 => ?_)
  · refine lv_iload_n hx hb d_X_wayTo_11 rfl (lv_at hl 0 rfl) ?_
    refine lv_iload_n hx hb d_X_wayTo_12 rfl (lv_at hl 2 rfl) ?_
    refine lv_icmp_le (tgt := 24) hx hb d_X_wayTo_13 (by decide) (fun c_13 => ?_) (fun c_13 => ?_)
    · refine lv_lconst (v := 0) hx hb d_X_wayTo_24 (by decide) ?_
      exact W.lret hx hb hr (fun t ht _ => ⟨congrArg (fun z => Outcome.returned (some (Value.long z))) (by unfold way; rw [if_neg (Int32.not_lt.mpr c_2), if_neg (Int32.not_lt.mpr c_13)]), ht⟩) (fun _ h => by cases h) d_X_wayTo_25 (hlocks := C0.2.2.2.2.2.2)
    · refine lv_iload_n hx hb d_X_wayTo_16 rfl (lv_at hl 0 rfl) ?_
      refine lv_i2l hx hb d_X_wayTo_17 rfl ?_
      refine lv_iload_n hx hb d_X_wayTo_18 rfl (lv_at hl 2 rfl) ?_
      refine lv_i2l hx hb d_X_wayTo_19 rfl ?_
      refine lv_lsub hx hb d_X_wayTo_20 ?_
      refine lv_goto (tgt := 25) hx hb d_X_wayTo_21 (by decide) ?_
      exact W.lret hx hb hr (fun t ht _ => ⟨congrArg (fun z => Outcome.returned (some (Value.long z))) (by unfold way; rw [if_neg (Int32.not_lt.mpr c_2), if_pos (Int32.not_le.mp c_13)]), ht⟩) (fun _ h => by cases h) d_X_wayTo_25 (hlocks := C0.2.2.2.2.2.2)
  · refine lv_iload_n hx hb d_X_wayTo_5 rfl (lv_at hl 1 rfl) ?_
    refine lv_i2l hx hb d_X_wayTo_6 rfl ?_
    refine lv_iload_n hx hb d_X_wayTo_7 rfl (lv_at hl 0 rfl) ?_
    refine lv_i2l hx hb d_X_wayTo_8 rfl ?_
    refine lv_lsub hx hb d_X_wayTo_9 ?_
    exact W.lret hx hb hr (fun t ht _ => ⟨congrArg (fun z => Outcome.returned (some (Value.long z))) (by unfold way; rw [if_pos (Int32.not_le.mp c_2)]), ht⟩) (fun _ h => by cases h) d_X_wayTo_10 (hlocks := C0.2.2.2.2.2.2)

set_option maxHeartbeats 4000000 in
set_option maxRecDepth 100000 in
theorem k_X_distanceFrom (l : Launch) (G : Gl) (w : World) {q : Nat} {a : Bx} (x y : Int32) (hq1 : w q = some (.inr (1, bxf a))) :
    PuM l y_X_distanceFrom ws_X_distanceFrom 1 G w [.ref q, .int x, .int y] (some (.long (bDst a x y))) := by
  refine met_ent (by decide +kernel) (Nat.le_of_ble_eq_true rfl) (fun p e s m below meth c ls C0 hr hin hH hl => ?_)
  have hx := C0.1
  have hb := C0.2.1
  have hS : va_S (gA G) s.heap s.heap [] := va_S.rf
  have hl : lv_has ls 7 [(0, .ref q), (1, .int x), (2, .int y)] := hl
  refine lv_iload_n hx hb d_X_distanceFrom_0 rfl (lv_at hl 1 rfl) ?_
  refine lv_aload_n hx hb d_X_distanceFrom_1 rfl (lv_at hl 0 rfl) ?_
  refine gf_X_15 C0 hH hq1 rfl d_X_distanceFrom_2 ?_
  refine lv_aload_n hx hb d_X_distanceFrom_5 rfl (lv_at hl 0 rfl) ?_
  refine gf_X_21 C0 hH hq1 rfl d_X_distanceFrom_6 ?_
  refine pu_v (runS C0 (k_X_wayTo l G w x a.2.1 a.2.2.2.1) (cs_X_27 C0 ⟨by decide, by decide⟩) hH hS rfl hl.1 rfl (lv_room (Nat.le_of_ble_eq_true rfl)) d_X_distanceFrom_9 ⟨Nat.zero_le _, Nat.zero_le _⟩) ?_
  refine lv_lstore_n (lv' := [(3, .long (way x a.2.1 a.2.2.2.1)), (0, .ref q), (1, .int x), (2, .int y)]) hx hb d_X_distanceFrom_12 rfl hl (by decide) rfl (fun ls hl => ?_)
  refine lv_iload_n hx hb d_X_distanceFrom_13 rfl (lv_at hl 3 rfl) ?_
  refine lv_aload_n hx hb d_X_distanceFrom_14 rfl (lv_at hl 1 rfl) ?_
  refine gf_X_18 C0 hH hq1 rfl d_X_distanceFrom_15 ?_
  refine lv_aload_n hx hb d_X_distanceFrom_18 rfl (lv_at hl 1 rfl) ?_
  refine gf_X_24 C0 hH hq1 rfl d_X_distanceFrom_19 ?_
  refine pu_v (runS C0 (k_X_wayTo l G w y a.2.2.1 a.2.2.2.2) (cs_X_27 C0 ⟨by decide, by decide⟩) hH hS rfl hl.1 rfl (lv_room (Nat.le_of_ble_eq_true rfl)) d_X_distanceFrom_22 ⟨Nat.zero_le _, Nat.zero_le _⟩) ?_
  refine lv_lstore (lv' := [(5, .long (way y a.2.2.1 a.2.2.2.2)), (3, .long (way x a.2.1 a.2.2.2.1)), (0, .ref q), (1, .int x), (2, .int y)]) hx hb d_X_distanceFrom_25 hl (by decide) rfl (fun ls hl => ?_)
  refine lv_lload_n hx hb d_X_distanceFrom_27 rfl (lv_at hl 1 rfl) ?_
  refine lv_lload_n hx hb d_X_distanceFrom_28 rfl (lv_at hl 1 rfl) ?_
  refine lv_lmul hx hb d_X_distanceFrom_29 ?_
  refine lv_lload hx hb d_X_distanceFrom_30 (lv_at hl 0 rfl) ?_
  refine lv_lload hx hb d_X_distanceFrom_32 (lv_at hl 0 rfl) ?_
  refine lv_lmul hx hb d_X_distanceFrom_34 ?_
  refine lv_ladd hx hb d_X_distanceFrom_35 ?_
  exact W.lret hx hb hr (fun t ht _ => ⟨rfl, ht⟩) (fun _ h => by cases h) d_X_distanceFrom_36 (hlocks := C0.2.2.2.2.2.2)

set_option maxHeartbeats 4000000 in
set_option maxRecDepth 100000 in
theorem k_X_bound (l : Launch) (G : Gl) (w : World) {q : Nat} {a : Bx} (k : Int32) (hq1 : w q = some (.inr (1, bxf a))) :
    PuM l y_X_bound ws_X_bound 0 G w [.ref q, .int k] (some (.int (bnd a k))) := by
  refine met_ent (by decide +kernel) (Nat.le_of_ble_eq_true rfl) (fun p e s m below meth c ls C0 hr hin hH hl => ?_)
  have hx := C0.1
  have hb := C0.2.1
  have hS : va_S (gA G) s.heap s.heap [] := va_S.rf
  have hl : lv_has ls 2 [(0, .ref q), (1, .int k)] := hl
  refine lv_iload_n hx hb d_X_bound_0 rfl (lv_at hl 1 rfl) ?_
  by_cases h0 : k = 0
  · subst h0
    refine lv_tableIn (off := 27) (tgt := 28) hx hb d_X_bound_1 (by decide) (by decide) (by decide) (by decide) ?_
    refine lv_aload_n hx hb d_X_bound_28 rfl (lv_at hl 0 rfl) ?_
    refine gf_X_15 C0 hH hq1 rfl d_X_bound_29 ?_
    exact W.iret hx hb hr (fun t ht _ => ⟨rfl, ht⟩) (fun _ h => by cases h) d_X_bound_32 (hlocks := C0.2.2.2.2.2.2)
  by_cases h1 : k = 1
  · subst h1
    refine lv_tableIn (off := 32) (tgt := 33) hx hb d_X_bound_1 (by decide) (by decide) (by decide) (by decide) ?_
    refine lv_aload_n hx hb d_X_bound_33 rfl (lv_at hl 0 rfl) ?_
    refine gf_X_18 C0 hH hq1 rfl d_X_bound_34 ?_
    exact W.iret hx hb hr (fun t ht _ => ⟨rfl, ht⟩) (fun _ h => by cases h) d_X_bound_37 (hlocks := C0.2.2.2.2.2.2)
  by_cases h2 : k = 2
  · subst h2
    refine lv_tableIn (off := 37) (tgt := 38) hx hb d_X_bound_1 (by decide) (by decide) (by decide) (by decide) ?_
    refine lv_aload_n hx hb d_X_bound_38 rfl (lv_at hl 0 rfl) ?_
    refine gf_X_21 C0 hH hq1 rfl d_X_bound_39 ?_
    exact W.iret hx hb hr (fun t ht _ => ⟨rfl, ht⟩) (fun _ h => by cases h) d_X_bound_42 (hlocks := C0.2.2.2.2.2.2)
  refine lv_tableOut (tgt := 43) hx hb d_X_bound_1 (by have a0 := tIne h0; have a1 := tIne h1; have a2 := tIne h2; rw [tI0] at a0; rw [tI1] at a1; rw [tI2] at a2; omega) (by decide) ?_
  refine lv_aload_n hx hb d_X_bound_43 rfl (lv_at hl 0 rfl) ?_
  refine gf_X_24 C0 hH hq1 rfl d_X_bound_44 ?_
  exact W.iret hx hb hr (fun t ht _ => ⟨by unfold bnd; rw [if_neg h0, if_neg h1, if_neg h2], ht⟩) (fun _ h => by cases h) d_X_bound_47 (hlocks := C0.2.2.2.2.2.2)

set_option maxHeartbeats 4000000 in
set_option maxRecDepth 100000 in
theorem k_B_fits (l : Launch) (G : Gl) (w : World) {x y : Nat} {a b : Bx} (k : Int32) (hx1 : w x = some (.inr (1, bxf a))) (hy1 : w y = some (.inr (1, bxf b))) :
    PuM l y_B_fits ws_B_fits 1 G w [.int k, .ref x, .ref y] (some (.int (b01 (fitsP k a b)))) := by
  refine met_ent (by decide +kernel) (Nat.le_of_ble_eq_true rfl) (fun p e s m below meth c ls C0 hr hin hH hl => ?_)
  have hx := C0.1
  have hb := C0.2.1
  have hS : va_S (gA G) s.heap s.heap [] := va_S.rf
  have hl : lv_has ls 3 [(0, .int k), (1, .ref x), (2, .ref y)] := hl
  refine lv_iload_n hx hb d_B_fits_0 rfl (lv_at hl 0 rfl) ?_
  by_cases h0 : k = 0
  · subst h0
    refine lv_lookup (off := 27) (tgt := 28) hx hb d_B_fits_1 (by decide) (by decide) (by decide) ?_
    refine lv_aload_n hx hb d_B_fits_28 rfl (lv_at hl 1 rfl) ?_
    refine lv_aload_n hx hb d_B_fits_29 rfl (lv_at hl 2 rfl) ?_
    refine pu_v (runVN C0 (k_X_meets l G w hx1 hy1) (cs_B_114 C0 ⟨by decide, by decide⟩) hH hS (hd_recv C0.hK hH rfl hx1) rfl hl.1 rfl (lv_room (Nat.le_of_ble_eq_true rfl)) d_B_fits_30 ⟨Nat.zero_le _, Nat.zero_le _⟩) ?_
    exact W.zret hx hb hr (b01_nar) (fun t ht _ => ⟨rfl, ht⟩) (fun _ h => by cases h) d_B_fits_33 (hlocks := C0.2.2.2.2.2.2)
  by_cases h1 : k = 1
  · subst h1
    refine lv_lookup (off := 33) (tgt := 34) hx hb d_B_fits_1 (by decide) (by decide) (by decide) ?_
    refine lv_aload_n hx hb d_B_fits_34 rfl (lv_at hl 1 rfl) ?_
    refine lv_aload_n hx hb d_B_fits_35 rfl (lv_at hl 2 rfl) ?_
    refine pu_v (runVN C0 (k_X_liesIn l G w hx1 hy1) (cs_B_161 C0 ⟨by decide, by decide⟩) hH hS (hd_recv C0.hK hH rfl hx1) rfl hl.1 rfl (lv_room (Nat.le_of_ble_eq_true rfl)) d_B_fits_36 ⟨Nat.zero_le _, Nat.zero_le _⟩) ?_
    exact W.zret hx hb hr (b01_nar) (fun t ht _ => ⟨rfl, ht⟩) (fun _ h => by cases h) d_B_fits_39 (hlocks := C0.2.2.2.2.2.2)
  refine lv_lookup (off := 39) (tgt := 40) hx hb d_B_fits_1 (by decide) (by have a0 := tIne h0; have a1 := tIne h1; rw [tI0] at a0; rw [tI1] at a1; simp only [Op.lookupswitch.offset]; rw [if_neg (fun h => a0 h.symm), if_neg (fun h => a1 h.symm)]) (by decide) ?_
  refine lv_aload_n hx hb d_B_fits_40 rfl (lv_at hl 2 rfl) ?_
  refine lv_aload_n hx hb d_B_fits_41 rfl (lv_at hl 1 rfl) ?_
  refine pu_v (runVN C0 (k_X_liesIn l G w hy1 hx1) (cs_B_161 C0 ⟨by decide, by decide⟩) hH hS (hd_recv C0.hK hH rfl hy1) rfl hl.1 rfl (lv_room (Nat.le_of_ble_eq_true rfl)) d_B_fits_42 ⟨Nat.zero_le _, Nat.zero_le _⟩) ?_
  exact W.zret hx hb hr (b01_nar) (fun t ht _ => ⟨by unfold fitsP; rw [if_neg h0, if_neg h1], ht⟩) (fun _ h => by cases h) d_B_fits_45 (hlocks := C0.2.2.2.2.2.2)

set_option maxHeartbeats 4000000 in
set_option maxRecDepth 100000 in
theorem k_B_isLeast (l : Launch) (G : Gl) (w : World) (k : Int32) :
    PuM l y_B_isLeast ws_B_isLeast 0 G w [.int k] (some (.int (b01 (k = 0 ∨ k = 1)))) := by
  refine met_ent (by decide +kernel) (Nat.le_of_ble_eq_true rfl) (fun p e s m below meth c ls C0 hr hin hH hl => ?_)
  have hx := C0.1
  have hb := C0.2.1
  have hS : va_S (gA G) s.heap s.heap [] := va_S.rf
  have hl : lv_has ls 1 [(0, .int k)] := hl
  refine lv_iload_n hx hb d_B_isLeast_0 rfl (lv_at hl 0 rfl) ?_
  refine lv_if_eq (tgt := 9) hx hb d_B_isLeast_1 (by decide) (fun c_1 => ?_) (fun c_1 => ?_)
  · refine lv_iconst (v := 1) hx hb d_B_isLeast_9 (by decide) ?_
    refine lv_goto (tgt := 14) hx hb d_B_isLeast_10 (by decide) ?_
    exact W.zret hx hb hr rfl (fun t ht _ => ⟨congrArg (fun z => Outcome.returned (some (Value.int z))) (b01_t (Or.inl c_1)).symm, ht⟩) (fun _ h => by cases h) d_B_isLeast_14 (hlocks := C0.2.2.2.2.2.2)
  · refine lv_iload_n hx hb d_B_isLeast_4 rfl (lv_at hl 0 rfl) ?_
    refine lv_iconst (v := 1) hx hb d_B_isLeast_5 (by decide) ?_
    refine lv_icmp_ne (tgt := 13) hx hb d_B_isLeast_6 (by decide) (fun c_6 => ?_) (fun c_6 => ?_)
    · refine lv_iconst (v := 0) hx hb d_B_isLeast_13 (by decide) ?_
      exact W.zret hx hb hr rfl (fun t ht _ => ⟨congrArg (fun z => Outcome.returned (some (Value.int z))) (b01_f (fun h => h.elim c_1 c_6)).symm, ht⟩) (fun _ h => by cases h) d_B_isLeast_14 (hlocks := C0.2.2.2.2.2.2)
    · refine lv_iconst (v := 1) hx hb d_B_isLeast_9 (by decide) ?_
      refine lv_goto (tgt := 14) hx hb d_B_isLeast_10 (by decide) ?_
      exact W.zret hx hb hr rfl (fun t ht _ => ⟨congrArg (fun z => Outcome.returned (some (Value.int z))) (b01_t (Or.inr c_6)).symm, ht⟩) (fun _ h => by cases h) d_B_isLeast_14 (hlocks := C0.2.2.2.2.2.2)

set_option maxHeartbeats 4000000 in
set_option maxRecDepth 100000 in
theorem k_B_requireNumber (l : Launch) (G : Gl) (w : World) (b : Int32) (h : okN b) :
    PuM l y_B_requireNumber ws_B_requireNumber 0 G w [.int b] none := by
  refine met_ent (by decide +kernel) (Nat.le_of_ble_eq_true rfl) (fun p e s m below meth c ls C0 hr hin hH hl => ?_)
  have hx := C0.1
  have hb := C0.2.1
  have hS : va_S (gA G) s.heap s.heap [] := va_S.rf
  have hl : lv_has ls 1 [(0, .int b)] := hl
  refine lv_iload_n hx hb d_B_requireNumber_0 rfl (lv_at hl 0 rfl) ?_
  refine lv_if_lt (tgt := 11) hx hb d_B_requireNumber_1 (by decide) (fun c_1 => ?_) (fun c_1 => ?_)
  · exact absurd h (by unfold okN; revert c_1; simp only [Int32.le_iff_toInt_le, Int32.lt_iff_toInt_lt, tI9, tIm9, tI4096, tI3, tI2, tI1, tI0]; omega)
  · refine lv_iload_n hx hb d_B_requireNumber_4 rfl (lv_at hl 0 rfl) ?_
    refine lv_sipush (v := 4096) hx hb d_B_requireNumber_5 (by decide) ?_
    refine lv_icmp_lt (tgt := 21) hx hb d_B_requireNumber_8 (by decide) (fun c_8 => ?_) (fun c_8 => ?_)
    · exact W.vret hx hb hr (fun t ht _ => ⟨rfl, ht⟩) (fun _ h => by cases h) d_B_requireNumber_21 (hlocks := C0.2.2.2.2.2.2)
    · exact absurd h (by unfold okN; revert c_8 c_1; simp only [Int32.le_iff_toInt_le, Int32.lt_iff_toInt_lt, tI9, tIm9, tI4096, tI3, tI2, tI1, tI0]; omega)

set_option maxHeartbeats 4000000 in
set_option maxRecDepth 100000 in
theorem t_B_requireNumber (l : Launch) (hlt : l.stackTraces = false) (G : Gl) (w : World) (b : Int32) (h : ¬ (okN b)) :
    ThM l y_B_requireNumber ws_B_requireNumber 6 G w [.int b] "java/lang/IndexOutOfBoundsException" := by
  refine th_ent (by decide +kernel) (Nat.le_of_ble_eq_true rfl) (fun p e s m below meth c ls C0 ht hH hl => ?_)
  have hx := C0.1
  have hb := C0.2.1
  have hS : va_S (gA G) s.heap s.heap [] := va_S.rf
  have hl : lv_has ls 1 [(0, .int b)] := hl
  refine lv_iload_n hx hb d_B_requireNumber_0 rfl (lv_at hl 0 rfl) ?_
  refine lv_if_lt (tgt := 11) hx hb d_B_requireNumber_1 (by decide) (fun c_1 => ?_) (fun c_1 => ?_)
  · exact th_throw (text := "no such number of a box") hlt C0 (by decide +kernel) mw_154 mw_9 at_io og_io (by decide +kernel) hl.1 d_B_requireNumber_11 d_B_requireNumber_14 d_B_requireNumber_15 d_B_requireNumber_17 d_B_requireNumber_20 ht (by decide)
  · refine lv_iload_n hx hb d_B_requireNumber_4 rfl (lv_at hl 0 rfl) ?_
    refine lv_sipush (v := 4096) hx hb d_B_requireNumber_5 (by decide) ?_
    refine lv_icmp_lt (tgt := 21) hx hb d_B_requireNumber_8 (by decide) (fun c_8 => ?_) (fun c_8 => ?_)
    · exact absurd (by unfold okN; revert c_8 c_1; simp only [Int32.le_iff_toInt_le, Int32.lt_iff_toInt_lt, tI9, tIm9, tI4096, tI3, tI2, tI1, tI0]; omega) h
    · exact th_throw (text := "no such number of a box") hlt C0 (by decide +kernel) mw_154 mw_9 at_io og_io (by decide +kernel) hl.1 d_B_requireNumber_11 d_B_requireNumber_14 d_B_requireNumber_15 d_B_requireNumber_17 d_B_requireNumber_20 ht (by decide)

set_option maxHeartbeats 4000000 in
set_option maxRecDepth 100000 in
theorem k_B_requirePlace (l : Launch) (G : Gl) (w : World) (x y : Int32) (h : okP x y) :
    PuM l y_B_requirePlace ws_B_requirePlace 0 G w [.int x, .int y] none := by
  refine met_ent (by decide +kernel) (Nat.le_of_ble_eq_true rfl) (fun p e s m below meth c ls C0 hr hin hH hl => ?_)
  have hx := C0.1
  have hb := C0.2.1
  have hS : va_S (gA G) s.heap s.heap [] := va_S.rf
  have hl : lv_has ls 2 [(0, .int x), (1, .int y)] := hl
  refine lv_iload_n hx hb d_B_requirePlace_0 rfl (lv_at hl 0 rfl) ?_
  refine W.eq (g2 := F0 m 1 ls _) rfl (W.ldc hx hb C0.2.2.2.1 (C0.2.2.2.2.1 _ mw_228) rfl d_B_requirePlace_1 ?_)
  refine W.eq (g2 := F0 m 3 ls [.int (-1000000000), .int x]) rfl ?_
  refine lv_icmp_lt (tgt := 24) hx hb d_B_requirePlace_3 (by decide) (fun c_3 => ?_) (fun c_3 => ?_)
  · exact absurd h (by unfold okP okC; revert c_3; simp only [Int32.le_iff_toInt_le, Int32.lt_iff_toInt_lt, tI9, tIm9, tI4096, tI3, tI2, tI1, tI0]; omega)
  · refine lv_iload_n hx hb d_B_requirePlace_6 rfl (lv_at hl 0 rfl) ?_
    refine W.eq (g2 := F0 m 7 ls _) rfl (W.ldc hx hb C0.2.2.2.1 (C0.2.2.2.2.1 _ mw_229) rfl d_B_requirePlace_7 ?_)
    refine W.eq (g2 := F0 m 9 ls [.int 1000000000, .int x]) rfl ?_
    refine lv_icmp_gt (tgt := 24) hx hb d_B_requirePlace_9 (by decide) (fun c_9 => ?_) (fun c_9 => ?_)
    · exact absurd h (by unfold okP okC; revert c_9 c_3; simp only [Int32.le_iff_toInt_le, Int32.lt_iff_toInt_lt, tI9, tIm9, tI4096, tI3, tI2, tI1, tI0]; omega)
    · refine lv_iload_n hx hb d_B_requirePlace_12 rfl (lv_at hl 1 rfl) ?_
      refine W.eq (g2 := F0 m 13 ls _) rfl (W.ldc hx hb C0.2.2.2.1 (C0.2.2.2.2.1 _ mw_228) rfl d_B_requirePlace_13 ?_)
      refine W.eq (g2 := F0 m 15 ls [.int (-1000000000), .int y]) rfl ?_
      refine lv_icmp_lt (tgt := 24) hx hb d_B_requirePlace_15 (by decide) (fun c_15 => ?_) (fun c_15 => ?_)
      · exact absurd h (by unfold okP okC; revert c_15 c_9 c_3; simp only [Int32.le_iff_toInt_le, Int32.lt_iff_toInt_lt, tI9, tIm9, tI4096, tI3, tI2, tI1, tI0]; omega)
      · refine lv_iload_n hx hb d_B_requirePlace_18 rfl (lv_at hl 1 rfl) ?_
        refine W.eq (g2 := F0 m 19 ls _) rfl (W.ldc hx hb C0.2.2.2.1 (C0.2.2.2.2.1 _ mw_229) rfl d_B_requirePlace_19 ?_)
        refine W.eq (g2 := F0 m 21 ls [.int 1000000000, .int y]) rfl ?_
        refine lv_icmp_le (tgt := 34) hx hb d_B_requirePlace_21 (by decide) (fun c_21 => ?_) (fun c_21 => ?_)
        · exact W.vret hx hb hr (fun t ht _ => ⟨rfl, ht⟩) (fun _ h => by cases h) d_B_requirePlace_34 (hlocks := C0.2.2.2.2.2.2)
        · exact absurd h (by unfold okP okC; revert c_21 c_15 c_9 c_3; simp only [Int32.le_iff_toInt_le, Int32.lt_iff_toInt_lt, tI9, tIm9, tI4096, tI3, tI2, tI1, tI0]; omega)

set_option maxHeartbeats 4000000 in
set_option maxRecDepth 100000 in
theorem t_B_requirePlace (l : Launch) (hlt : l.stackTraces = false) (G : Gl) (w : World) (x y : Int32) (h : ¬ (okP x y)) :
    ThM l y_B_requirePlace ws_B_requirePlace 6 G w [.int x, .int y] "java/lang/IllegalArgumentException" := by
  refine th_ent (by decide +kernel) (Nat.le_of_ble_eq_true rfl) (fun p e s m below meth c ls C0 ht hH hl => ?_)
  have hx := C0.1
  have hb := C0.2.1
  have hS : va_S (gA G) s.heap s.heap [] := va_S.rf
  have hl : lv_has ls 2 [(0, .int x), (1, .int y)] := hl
  refine lv_iload_n hx hb d_B_requirePlace_0 rfl (lv_at hl 0 rfl) ?_
  refine W.eq (g2 := F0 m 1 ls _) rfl (W.ldc hx hb C0.2.2.2.1 (C0.2.2.2.2.1 _ mw_228) rfl d_B_requirePlace_1 ?_)
  refine W.eq (g2 := F0 m 3 ls [.int (-1000000000), .int x]) rfl ?_
  refine lv_icmp_lt (tgt := 24) hx hb d_B_requirePlace_3 (by decide) (fun c_3 => ?_) (fun c_3 => ?_)
  · exact th_throw (text := "not from -1000000000 to 1000000000") hlt C0 (by decide +kernel) mw_230 mw_10 at_ia og_ia (by decide +kernel) hl.1 d_B_requirePlace_24 d_B_requirePlace_27 d_B_requirePlace_28 d_B_requirePlace_30 d_B_requirePlace_33 ht (by decide)
  · refine lv_iload_n hx hb d_B_requirePlace_6 rfl (lv_at hl 0 rfl) ?_
    refine W.eq (g2 := F0 m 7 ls _) rfl (W.ldc hx hb C0.2.2.2.1 (C0.2.2.2.2.1 _ mw_229) rfl d_B_requirePlace_7 ?_)
    refine W.eq (g2 := F0 m 9 ls [.int 1000000000, .int x]) rfl ?_
    refine lv_icmp_gt (tgt := 24) hx hb d_B_requirePlace_9 (by decide) (fun c_9 => ?_) (fun c_9 => ?_)
    · exact th_throw (text := "not from -1000000000 to 1000000000") hlt C0 (by decide +kernel) mw_230 mw_10 at_ia og_ia (by decide +kernel) hl.1 d_B_requirePlace_24 d_B_requirePlace_27 d_B_requirePlace_28 d_B_requirePlace_30 d_B_requirePlace_33 ht (by decide)
    · refine lv_iload_n hx hb d_B_requirePlace_12 rfl (lv_at hl 1 rfl) ?_
      refine W.eq (g2 := F0 m 13 ls _) rfl (W.ldc hx hb C0.2.2.2.1 (C0.2.2.2.2.1 _ mw_228) rfl d_B_requirePlace_13 ?_)
      refine W.eq (g2 := F0 m 15 ls [.int (-1000000000), .int y]) rfl ?_
      refine lv_icmp_lt (tgt := 24) hx hb d_B_requirePlace_15 (by decide) (fun c_15 => ?_) (fun c_15 => ?_)
      · exact th_throw (text := "not from -1000000000 to 1000000000") hlt C0 (by decide +kernel) mw_230 mw_10 at_ia og_ia (by decide +kernel) hl.1 d_B_requirePlace_24 d_B_requirePlace_27 d_B_requirePlace_28 d_B_requirePlace_30 d_B_requirePlace_33 ht (by decide)
      · refine lv_iload_n hx hb d_B_requirePlace_18 rfl (lv_at hl 1 rfl) ?_
        refine W.eq (g2 := F0 m 19 ls _) rfl (W.ldc hx hb C0.2.2.2.1 (C0.2.2.2.2.1 _ mw_229) rfl d_B_requirePlace_19 ?_)
        refine W.eq (g2 := F0 m 21 ls [.int 1000000000, .int y]) rfl ?_
        refine lv_icmp_le (tgt := 34) hx hb d_B_requirePlace_21 (by decide) (fun c_21 => ?_) (fun c_21 => ?_)
        · exact absurd (by unfold okP okC; revert c_21 c_15 c_9 c_3; simp only [Int32.le_iff_toInt_le, Int32.lt_iff_toInt_lt, tI9, tIm9, tI4096, tI3, tI2, tI1, tI0]; omega) h
        · exact th_throw (text := "not from -1000000000 to 1000000000") hlt C0 (by decide +kernel) mw_230 mw_10 at_ia og_ia (by decide +kernel) hl.1 d_B_requirePlace_24 d_B_requirePlace_27 d_B_requirePlace_28 d_B_requirePlace_30 d_B_requirePlace_33 ht (by decide)

set_option maxHeartbeats 4000000 in
set_option maxRecDepth 100000 in
theorem k_B_requireBound (l : Launch) (G : Gl) (w : World) (k : Int32) (h : okW k) :
    PuM l y_B_requireBound ws_B_requireBound 0 G w [.int k] none := by
  refine met_ent (by decide +kernel) (Nat.le_of_ble_eq_true rfl) (fun p e s m below meth c ls C0 hr hin hH hl => ?_)
  have hx := C0.1
  have hb := C0.2.1
  have hS : va_S (gA G) s.heap s.heap [] := va_S.rf
  have hl : lv_has ls 1 [(0, .int k)] := hl
  refine lv_iload_n hx hb d_B_requireBound_0 rfl (lv_at hl 0 rfl) ?_
  refine lv_if_lt (tgt := 9) hx hb d_B_requireBound_1 (by decide) (fun c_1 => ?_) (fun c_1 => ?_)
  · exact absurd h (by unfold okW; revert c_1; simp only [Int32.le_iff_toInt_le, Int32.lt_iff_toInt_lt, tI9, tIm9, tI4096, tI3, tI2, tI1, tI0]; omega)
  · refine lv_iload_n hx hb d_B_requireBound_4 rfl (lv_at hl 0 rfl) ?_
    refine lv_iconst (v := 3) hx hb d_B_requireBound_5 (by decide) ?_
    refine lv_icmp_le (tgt := 19) hx hb d_B_requireBound_6 (by decide) (fun c_6 => ?_) (fun c_6 => ?_)
    · exact W.vret hx hb hr (fun t ht _ => ⟨rfl, ht⟩) (fun _ h => by cases h) d_B_requireBound_19 (hlocks := C0.2.2.2.2.2.2)
    · exact absurd h (by unfold okW; revert c_6 c_1; simp only [Int32.le_iff_toInt_le, Int32.lt_iff_toInt_lt, tI9, tIm9, tI4096, tI3, tI2, tI1, tI0]; omega)

set_option maxHeartbeats 4000000 in
set_option maxRecDepth 100000 in
theorem t_B_requireBound (l : Launch) (hlt : l.stackTraces = false) (G : Gl) (w : World) (k : Int32) (h : ¬ (okW k)) :
    ThM l y_B_requireBound ws_B_requireBound 6 G w [.int k] "java/lang/IndexOutOfBoundsException" := by
  refine th_ent (by decide +kernel) (Nat.le_of_ble_eq_true rfl) (fun p e s m below meth c ls C0 ht hH hl => ?_)
  have hx := C0.1
  have hb := C0.2.1
  have hS : va_S (gA G) s.heap s.heap [] := va_S.rf
  have hl : lv_has ls 1 [(0, .int k)] := hl
  refine lv_iload_n hx hb d_B_requireBound_0 rfl (lv_at hl 0 rfl) ?_
  refine lv_if_lt (tgt := 9) hx hb d_B_requireBound_1 (by decide) (fun c_1 => ?_) (fun c_1 => ?_)
  · exact th_throw (text := "what is none of 0 .. 3") hlt C0 (by decide +kernel) mw_154 mw_9 at_io og_io (by decide +kernel) hl.1 d_B_requireBound_9 d_B_requireBound_12 d_B_requireBound_13 d_B_requireBound_15 d_B_requireBound_18 ht (by decide)
  · refine lv_iload_n hx hb d_B_requireBound_4 rfl (lv_at hl 0 rfl) ?_
    refine lv_iconst (v := 3) hx hb d_B_requireBound_5 (by decide) ?_
    refine lv_icmp_le (tgt := 19) hx hb d_B_requireBound_6 (by decide) (fun c_6 => ?_) (fun c_6 => ?_)
    · exact absurd (by unfold okW; revert c_6 c_1; simp only [Int32.le_iff_toInt_le, Int32.lt_iff_toInt_lt, tI9, tIm9, tI4096, tI3, tI2, tI1, tI0]; omega) h
    · exact th_throw (text := "what is none of 0 .. 3") hlt C0 (by decide +kernel) mw_154 mw_9 at_io og_io (by decide +kernel) hl.1 d_B_requireBound_9 d_B_requireBound_12 d_B_requireBound_13 d_B_requireBound_15 d_B_requireBound_18 ht (by decide)

set_option maxHeartbeats 4000000 in
set_option maxRecDepth 100000 in
theorem k_B_requireBounds (l : Launch) (G : Gl) (w : World) (lx ly hx1 hy1 : Int32) (h : okB lx ly hx1 hy1) :
    PuM l y_B_requireBounds ws_B_requireBounds 1 G w [.int lx, .int ly, .int hx1, .int hy1] none := by
  refine met_ent (by decide +kernel) (Nat.le_of_ble_eq_true rfl) (fun p e s m below meth c ls C0 hr hin hH hl => ?_)
  have hx := C0.1
  have hb := C0.2.1
  have hS : va_S (gA G) s.heap s.heap [] := va_S.rf
  have hl : lv_has ls 4 [(0, .int lx), (1, .int ly), (2, .int hx1), (3, .int hy1)] := hl
  refine lv_iload_n hx hb d_B_requireBounds_0 rfl (lv_at hl 0 rfl) ?_
  refine lv_iload_n hx hb d_B_requireBounds_1 rfl (lv_at hl 1 rfl) ?_
  refine pu_n (runS C0 (k_B_requirePlace l G w lx ly h.1) (cs_B_90 C0 ⟨by decide, by decide⟩) hH hS rfl hl.1 rfl (lv_room (Nat.le_of_ble_eq_true rfl)) d_B_requireBounds_2 ⟨Nat.zero_le _, Nat.zero_le _⟩) ?_
  refine lv_iload_n hx hb d_B_requireBounds_5 rfl (lv_at hl 2 rfl) ?_
  refine lv_iload_n hx hb d_B_requireBounds_6 rfl (lv_at hl 3 rfl) ?_
  refine pu_n (runS C0 (k_B_requirePlace l G w hx1 hy1 h.2.1) (cs_B_90 C0 ⟨by decide, by decide⟩) hH hS rfl hl.1 rfl (lv_room (Nat.le_of_ble_eq_true rfl)) d_B_requireBounds_7 ⟨Nat.zero_le _, Nat.zero_le _⟩) ?_
  refine lv_iload_n hx hb d_B_requireBounds_10 rfl (lv_at hl 2 rfl) ?_
  refine lv_iload_n hx hb d_B_requireBounds_11 rfl (lv_at hl 0 rfl) ?_
  refine lv_icmp_lt (tgt := 20) hx hb d_B_requireBounds_12 (by decide) (fun c_12 => ?_) (fun c_12 => ?_)
  · exact absurd h.2.2 (by revert c_12; simp only [Int32.le_iff_toInt_le, Int32.lt_iff_toInt_lt, tI9, tIm9, tI4096, tI3, tI2, tI1, tI0]; omega)
  · refine lv_iload_n hx hb d_B_requireBounds_15 rfl (lv_at hl 3 rfl) ?_
    refine lv_iload_n hx hb d_B_requireBounds_16 rfl (lv_at hl 1 rfl) ?_
    refine lv_icmp_ge (tgt := 30) hx hb d_B_requireBounds_17 (by decide) (fun c_17 => ?_) (fun c_17 => ?_)
    · exact W.vret hx hb hr (fun t ht _ => ⟨rfl, ht⟩) (fun _ h => by cases h) d_B_requireBounds_30 (hlocks := C0.2.2.2.2.2.2)
    · exact absurd h.2.2 (by revert c_17 c_12; simp only [Int32.le_iff_toInt_le, Int32.lt_iff_toInt_lt, tI9, tIm9, tI4096, tI3, tI2, tI1, tI0]; omega)

set_option maxHeartbeats 4000000 in
set_option maxRecDepth 100000 in
theorem t_B_requireBounds (l : Launch) (hlt : l.stackTraces = false) (G : Gl) (w : World) (lx ly hx1 hy1 : Int32) (h : ¬ okB lx ly hx1 hy1) :
    ThM l y_B_requireBounds ws_B_requireBounds 7 G w [.int lx, .int ly, .int hx1, .int hy1] "java/lang/IllegalArgumentException" := by
  refine th_ent (by decide +kernel) (Nat.le_of_ble_eq_true rfl) (fun p e s m below meth c ls C0 ht hH hl => ?_)
  have hx := C0.1
  have hb := C0.2.1
  have hS : va_S (gA G) s.heap s.heap [] := va_S.rf
  have hl : lv_has ls 4 [(0, .int lx), (1, .int ly), (2, .int hx1), (3, .int hy1)] := hl
  refine lv_iload_n hx hb d_B_requireBounds_0 rfl (lv_at hl 0 rfl) ?_
  refine lv_iload_n hx hb d_B_requireBounds_1 rfl (lv_at hl 1 rfl) ?_
  by_cases g_2 : okP lx ly
  · refine pu_n (runS C0 (k_B_requirePlace l G w lx ly g_2) (cs_B_90 C0 ⟨by decide, by decide⟩) hH hS rfl hl.1 rfl (lv_room (Nat.le_of_ble_eq_true rfl)) d_B_requireBounds_2 ⟨Nat.zero_le _, Nat.zero_le _⟩) ?_
    refine lv_iload_n hx hb d_B_requireBounds_5 rfl (lv_at hl 2 rfl) ?_
    refine lv_iload_n hx hb d_B_requireBounds_6 rfl (lv_at hl 3 rfl) ?_
    by_cases g_7 : okP hx1 hy1
    · refine pu_n (runS C0 (k_B_requirePlace l G w hx1 hy1 g_7) (cs_B_90 C0 ⟨by decide, by decide⟩) hH hS rfl hl.1 rfl (lv_room (Nat.le_of_ble_eq_true rfl)) d_B_requireBounds_7 ⟨Nat.zero_le _, Nat.zero_le _⟩) ?_
      refine lv_iload_n hx hb d_B_requireBounds_10 rfl (lv_at hl 2 rfl) ?_
      refine lv_iload_n hx hb d_B_requireBounds_11 rfl (lv_at hl 0 rfl) ?_
      refine lv_icmp_lt (tgt := 20) hx hb d_B_requireBounds_12 (by decide) (fun c_12 => ?_) (fun c_12 => ?_)
      · exact th_throw (text := "a greatest bound is below its least") hlt C0 (by decide +kernel) mw_230 mw_10 at_ia og_ia (by decide +kernel) hl.1 d_B_requireBounds_20 d_B_requireBounds_23 d_B_requireBounds_24 d_B_requireBounds_26 d_B_requireBounds_29 ht (by decide)
      · refine lv_iload_n hx hb d_B_requireBounds_15 rfl (lv_at hl 3 rfl) ?_
        refine lv_iload_n hx hb d_B_requireBounds_16 rfl (lv_at hl 1 rfl) ?_
        refine lv_icmp_ge (tgt := 30) hx hb d_B_requireBounds_17 (by decide) (fun c_17 => ?_) (fun c_17 => ?_)
        · exact absurd ⟨g_2, g_7, by revert c_17 c_12; simp only [Int32.le_iff_toInt_le, Int32.lt_iff_toInt_lt, tI9, tIm9, tI4096, tI3, tI2, tI1, tI0]; omega⟩ h
        · exact th_throw (text := "a greatest bound is below its least") hlt C0 (by decide +kernel) mw_230 mw_10 at_ia og_ia (by decide +kernel) hl.1 d_B_requireBounds_20 d_B_requireBounds_23 d_B_requireBounds_24 d_B_requireBounds_26 d_B_requireBounds_29 ht (by decide)
    · exact th_out ht C0.2.2.2.2.2.2 (xrunS C0 (t_B_requirePlace l hlt G w hx1 hy1 g_7) (cs_B_90 C0 ⟨by decide, by decide⟩) hH hS rfl hl.1 rfl (lv_room (Nat.le_of_ble_eq_true rfl)) d_B_requireBounds_7 ⟨Nat.le_refl _, Nat.le_refl _⟩)
  · exact th_out ht C0.2.2.2.2.2.2 (xrunS C0 (t_B_requirePlace l hlt G w lx ly g_2) (cs_B_90 C0 ⟨by decide, by decide⟩) hH hS rfl hl.1 rfl (lv_room (Nat.le_of_ble_eq_true rfl)) d_B_requireBounds_2 ⟨Nat.le_refl _, Nat.le_refl _⟩)
end
section
/-! the list of boxes, sorted by number; where a number stands in it -/
/-- an ArrayList at L holds the boxes bs -/
def LsAt (G : Gl) (w : World) (L E N : Nat) (f : Nat → Option Nat) (md : Int32) (bs : List Bx) : Prop :=
  w L = some (.inr (0, [.int md, .ref E, .int (nI bs.length)])) ∧ bs.length ≤ N ∧ N ≤ 100000 ∧ ((E = ge0 G ∧ N = 0) ∨ w E = some (.inl (G.2.1.2.2.2, N, .inr (.inr (.inr (.inr f)))))) ∧ ∀ (i : Nat) (h : i < bs.length), ∃ x : Nat, f i = some x ∧ w x = some (.inr (1, bxf bs[i]))
theorem LsAt.arr {G : Gl} {w : World} {L E N : Nat} {f : Nat → Option Nat} {md : Int32} {bs : List Bx} (h : LsAt G w L E N f md bs) (h0 : 0 < bs.length) : w E = some (.inl (G.2.1.2.2.2, N, .inr (.inr (.inr (.inr f))))) := by
  obtain ⟨-, h2, -, h4, -⟩ := h
  rcases h4 with ⟨-, rfl⟩ | h4
  · omega
  · exact h4
/-- k is where n stands, or would have to stand -/
def Lb (bs : List Bx) (n : Int32) (k : Nat) : Prop := k ≤ bs.length ∧ (∀ (i : Nat) (h : i < bs.length), i < k → bs[i].1 < n) ∧ ∀ (i : Nat) (h : i < bs.length), k ≤ i → ¬ bs[i].1 < n
theorem Lb.uniq {bs : List Bx} {n : Int32} {j k : Nat} (h1 : Lb bs n j) (h2 : Lb bs n k) : j = k := by
  obtain ⟨a1, a2, a3⟩ := h1
  obtain ⟨b1, b2, b3⟩ := h2
  rcases Nat.lt_trichotomy j k with h | h | h
  · exact absurd (b2 j (by omega) h) (a3 j (by omega) (Nat.le_refl _))
  · exact h
  · exact absurd (a2 k (by omega) h) (b3 k (by omega) (Nat.le_refl _))
def Srt (bs : List Bx) : Prop := ∀ (i j : Nat) (hi : i < bs.length) (hj : j < bs.length), i < j → bs[i].1 < bs[j].1
theorem mid_v {a b : Nat} (h : a + b < 2 ^ 31) : ((nI a + nI b).toUInt32 >>> ((1 : Int32).toUInt32 &&& Int32.toUInt32 31)).toInt32 = nI ((a + b) / 2) := by
  rw [nI_add]
  exact pk_ushrN (by omega) 1 1 (by decide)
theorem i32_lt_trans {a b c : Int32} (h1 : a < b) (h2 : b < c) : a < c := Int32.lt_iff_toInt_lt.mpr (Int.lt_trans (Int32.lt_iff_toInt_lt.mp h1) (Int32.lt_iff_toInt_lt.mp h2))
theorem i32_nlt_of {a b c : Int32} (h1 : ¬ a < c) (h2 : a < b) : ¬ b < c := fun h => h1 (i32_lt_trans h2 h)

set_option maxHeartbeats 4000000 in
set_option maxRecDepth 100000 in
theorem k_B_indexFor (l : Launch) (G : Gl) (w : World) {x L F Gd E N : Nat} {nF md : Int32} {f : Nat → Option Nat} {bs : List Bx} (n : Int32) (k : Nat) (hB : w x = some (.inr (2, [.ref L, .ref F, .int nF, .ref Gd]))) (hLs : LsAt G w L E N f md bs) (hs : Srt bs) (hk : Lb bs n k) :
    PuM l y_B_indexFor ws_B_indexFor 3 G w [.ref x, .int n] (some (.int (nI k))) := by
  refine met_ent (by decide +kernel) (Nat.le_of_ble_eq_true rfl) (fun p e s m below meth c ls C0 hr hin hH hl => ?_)
  have hx := C0.1
  have hb := C0.2.1
  have hS : va_S (gA G) s.heap s.heap [] := va_S.rf
  have hl : lv_has ls 5 [(0, .ref x), (1, .int n)] := hl
  obtain ⟨hL1, hL2, hL3, hL4, hL5⟩ := id hLs
  refine lv_iconst (v := 0) hx hb d_B_indexFor_0 (by decide) ?_
  refine lv_istore_n (lv' := [(2, .int 0), (0, .ref x), (1, .int n)]) hx hb d_B_indexFor_1 rfl hl (by decide) rfl (fun ls hl => ?_)
  refine lv_aload_n hx hb d_B_indexFor_2 rfl (lv_at hl 1 rfl) ?_
  refine gf_B_10 C0 hH hB rfl d_B_indexFor_3 ?_
  refine pu_v (runV C0 (k_A_size l G w hL1) (cs_B_61 C0 ⟨by decide, by decide⟩) hH hS (hd_recv C0.hK hH rfl hL1) rfl hl.1 rfl (lv_room (Nat.le_of_ble_eq_true rfl)) d_B_indexFor_6 ⟨Nat.zero_le _, Nat.zero_le _⟩) ?_
  refine lv_istore_n (lv' := [(3, .int (nI bs.length)), (2, .int 0), (0, .ref x), (1, .int n)]) hx hb d_B_indexFor_9 rfl hl (by decide) rfl (fun ls hl => ?_)
  have loop : ∀ (u fr to : Nat), to < fr + u → fr ≤ to → to ≤ bs.length → (∀ (i : Nat) (h : i < bs.length), i < fr → bs[i].1 < n) → (∀ (i : Nat) (h : i < bs.length), to ≤ i → ¬ bs[i].1 < n) → ∀ ls : Array Slot, lv_has ls 5 [(0, .ref x), (1, .int n), (2, .int (nI fr)), (3, .int (nI to))] → W p l e (rmK 3 0 0) s m [.ref x, .int n].toArray below meth c s.heap [] 0 0 (MQ below (PuQ (some (.int (nI k)))) [.ref x, .int n].toArray s 0 0 (fun _ => False)) (F0 m 10 ls []) := by
    intro u
    induction u with
    | zero => intro fr to h1 h2; exact absurd h1 (by omega)
    | succ u ih =>
      intro fr to hu hft htl hlo hhi ls hl
      refine lv_iload_n hx hb d_B_indexFor_10 rfl (lv_at hl 2 rfl) ?_
      refine lv_iload_n hx hb d_B_indexFor_11 rfl (lv_at hl 3 rfl) ?_
      refine lv_icmp_ge (tgt := 55) hx hb d_B_indexFor_12 (by decide) (fun c_12 => ?_) (fun c_12 => ?_)
      · refine lv_iload_n hx hb d_B_indexFor_55 rfl (lv_at hl 2 rfl) ?_
        exact W.iret hx hb hr (fun t ht _ => ⟨congrArg (fun z => Outcome.returned (some (Value.int z))) (congrArg nI (Lb.uniq ⟨Nat.le_trans hft htl, hlo, fun i h h2 => hhi i h (Nat.le_trans (Nat.le_of_not_lt (fun h3 => absurd c_12 (Int32.not_le.mpr (nI_lt h3 (by omega))))) h2)⟩ hk)), ht⟩) (fun _ h => by cases h) d_B_indexFor_56 (hlocks := C0.2.2.2.2.2.2)
      · have hlt : fr < to := Nat.not_le.mp (fun h => c_12 (nI_le h (by omega)))
        refine lv_iload_n hx hb d_B_indexFor_15 rfl (lv_at hl 2 rfl) ?_
        refine lv_iload_n hx hb d_B_indexFor_16 rfl (lv_at hl 3 rfl) ?_
        refine lv_iadd hx hb d_B_indexFor_17 ?_
        refine lv_iconst (v := 1) hx hb d_B_indexFor_18 (by decide) ?_
        refine lv_iushr hx hb d_B_indexFor_19 (mid_v (by omega)) ?_
        refine lv_istore (lv' := [(4, .int (nI ((fr + to) / 2))), (0, .ref x), (1, .int n), (2, .int (nI fr)), (3, .int (nI to))]) hx hb d_B_indexFor_20 hl (by decide) rfl (fun ls hl => ?_)
        refine lv_aload_n hx hb d_B_indexFor_22 rfl (lv_at hl 1 rfl) ?_
        refine gf_B_10 C0 hH hB rfl d_B_indexFor_23 ?_
        refine lv_iload hx hb d_B_indexFor_26 (lv_at hl 0 rfl) ?_
        obtain ⟨xm, hf_xm, h_xm⟩ := hL5 ((fr + to) / 2) (by omega)
        refine pu_v (runV C0 (k_A_get l G w hL1 (hLs.arr (by omega)) (i := (fr + to) / 2) (by omega) hL2 (by omega) hf_xm) (cs_B_75 C0 ⟨by decide, by decide⟩) hH hS (hd_recv C0.hK hH rfl hL1) rfl hl.1 rfl (lv_room (Nat.le_of_ble_eq_true rfl)) d_B_indexFor_28 ⟨Nat.zero_le _, Nat.zero_le _⟩) ?_
        refine va_castY hx hb C0.2.2.2.1 (C0.2.2.2.2.1 _ mw_104) (C0.ev.2.2.2.2.2.2.1 (Cond.castable "BoxDrawer$Box" "BoxDrawer$Box") (by decide +kernel)) (hd_recv C0.hK hH rfl h_xm) d_B_indexFor_31 ?_
        refine gf_B_82 C0 hH h_xm rfl d_B_indexFor_34 ?_
        refine lv_iload_n hx hb d_B_indexFor_37 rfl (lv_at hl 2 rfl) ?_
        refine lv_icmp_ge (tgt := 49) hx hb d_B_indexFor_38 (by decide) (fun c_38 => ?_) (fun c_38 => ?_)
        · refine lv_iload hx hb d_B_indexFor_49 (lv_at hl 0 rfl) ?_
          refine lv_istore_n (lv' := [(3, .int (nI ((fr + to) / 2))), (4, .int (nI ((fr + to) / 2))), (0, .ref x), (1, .int n), (2, .int (nI fr))]) hx hb d_B_indexFor_51 rfl hl (by decide) rfl (fun ls hl => ?_)
          refine lv_goto (tgt := 10) hx hb d_B_indexFor_52 (by decide) ?_
          refine ih fr ((fr + to) / 2) (by omega) (by omega) (by omega) hlo (fun i h h2 => ?_) ls (lv_sub hl [2, 3, 4, 0] rfl)
          rcases Nat.lt_or_eq_of_le h2 with h3 | h3
          · exact i32_nlt_of (Int32.not_lt.mpr c_38) (hs _ i (by omega) h h3)
          · subst h3; exact Int32.not_lt.mpr c_38
        · refine lv_iload hx hb d_B_indexFor_41 (lv_at hl 0 rfl) ?_
          refine lv_iconst (v := 1) hx hb d_B_indexFor_43 (by decide) ?_
          refine lv_iadd hx hb d_B_indexFor_44 ?_
          rw [nI_1]
          refine lv_istore_n (lv' := [(2, .int (nI ((fr + to) / 2 + 1))), (4, .int (nI ((fr + to) / 2))), (0, .ref x), (1, .int n), (3, .int (nI to))]) hx hb d_B_indexFor_45 rfl hl (by decide) rfl (fun ls hl => ?_)
          refine lv_goto (tgt := 52) hx hb d_B_indexFor_46 (by decide) ?_
          refine lv_goto (tgt := 10) hx hb d_B_indexFor_52 (by decide) ?_
          refine ih ((fr + to) / 2 + 1) to (by omega) (by omega) htl (fun i h h2 => ?_) hhi ls (lv_sub hl [2, 3, 0, 4] rfl)
          rcases Nat.lt_or_eq_of_le (Nat.le_of_lt_succ h2) with h3 | h3
          · exact i32_lt_trans (hs i _ h (by omega) h3) (Int32.not_le.mp c_38)
          · subst h3; exact Int32.not_le.mp c_38
  exact loop (bs.length + 1) 0 bs.length (by omega) (Nat.zero_le _) (Nat.le_refl _) (fun i h h2 => absurd h2 (Nat.not_lt_zero _)) (fun i h h2 => absurd h (by omega)) ls (lv_sub hl [2, 3, 1, 0] rfl)

set_option maxHeartbeats 4000000 in
set_option maxRecDepth 100000 in
theorem k_B_isAt (l : Launch) (G : Gl) (w : World) {x L F Gd E N : Nat} {nF md : Int32} {f : Nat → Option Nat} {bs : List Bx} (k : Nat) (n : Int32) (hk9 : k ≤ bs.length) (hB : w x = some (.inr (2, [.ref L, .ref F, .int nF, .ref Gd]))) (hLs : LsAt G w L E N f md bs) :
    PuM l y_B_isAt ws_B_isAt 3 G w [.ref x, .int (nI k), .int n] (some (.int (b01 (∃ h : k < bs.length, bs[k].1 = n)))) := by
  refine met_ent (by decide +kernel) (Nat.le_of_ble_eq_true rfl) (fun p e s m below meth c ls C0 hr hin hH hl => ?_)
  have hx := C0.1
  have hb := C0.2.1
  have hS : va_S (gA G) s.heap s.heap [] := va_S.rf
  have hl : lv_has ls 3 [(0, .ref x), (1, .int (nI k)), (2, .int n)] := hl
  obtain ⟨hL1, hL2, hL3, hL4, hL5⟩ := id hLs
  refine lv_iload_n hx hb d_B_isAt_0 rfl (lv_at hl 1 rfl) ?_
  refine lv_if_lt (tgt := 37) hx hb d_B_isAt_1 (by decide) (fun c_1 => ?_) (fun c_1 => ?_)
  · refine lv_iconst (v := 0) hx hb d_B_isAt_37 (by decide) ?_
    exact W.zret hx hb hr rfl (fun t ht _ => ⟨congrArg (fun z => Outcome.returned (some (Value.int z))) (b01_f (fun _ => nI_pos (by omega) c_1)).symm, ht⟩) (fun _ h => by cases h) d_B_isAt_38 (hlocks := C0.2.2.2.2.2.2)
  · refine lv_iload_n hx hb d_B_isAt_4 rfl (lv_at hl 1 rfl) ?_
    refine lv_aload_n hx hb d_B_isAt_5 rfl (lv_at hl 0 rfl) ?_
    refine gf_B_10 C0 hH hB rfl d_B_isAt_6 ?_
    refine pu_v (runV C0 (k_A_size l G w hL1) (cs_B_61 C0 ⟨by decide, by decide⟩) hH hS (hd_recv C0.hK hH rfl hL1) rfl hl.1 rfl (lv_room (Nat.le_of_ble_eq_true rfl)) d_B_isAt_9 ⟨Nat.zero_le _, Nat.zero_le _⟩) ?_
    refine lv_icmp_ge (tgt := 37) hx hb d_B_isAt_12 (by decide) (fun c_12 => ?_) (fun c_12 => ?_)
    · refine lv_iconst (v := 0) hx hb d_B_isAt_37 (by decide) ?_
      exact W.zret hx hb hr rfl (fun t ht _ => ⟨congrArg (fun z => Outcome.returned (some (Value.int z))) (b01_f (fun ⟨h1, _⟩ => absurd c_12 (Int32.not_le.mpr (nI_lt h1 (by omega))))).symm, ht⟩) (fun _ h => by cases h) d_B_isAt_38 (hlocks := C0.2.2.2.2.2.2)
    · have hk : k < bs.length := Nat.not_le.mp (fun h => c_12 (nI_le h (by omega)))
      refine lv_aload_n hx hb d_B_isAt_15 rfl (lv_at hl 0 rfl) ?_
      refine gf_B_10 C0 hH hB rfl d_B_isAt_16 ?_
      refine lv_iload_n hx hb d_B_isAt_19 rfl (lv_at hl 1 rfl) ?_
      obtain ⟨xm, hf_xm, h_xm⟩ := hL5 k (hk)
      refine pu_v (runV C0 (k_A_get l G w hL1 (hLs.arr (by omega)) (i := k) (by omega) hL2 (by omega) hf_xm) (cs_B_75 C0 ⟨by decide, by decide⟩) hH hS (hd_recv C0.hK hH rfl hL1) rfl hl.1 rfl (lv_room (Nat.le_of_ble_eq_true rfl)) d_B_isAt_20 ⟨Nat.zero_le _, Nat.zero_le _⟩) ?_
      refine va_castY hx hb C0.2.2.2.1 (C0.2.2.2.2.1 _ mw_104) (C0.ev.2.2.2.2.2.2.1 (Cond.castable "BoxDrawer$Box" "BoxDrawer$Box") (by decide +kernel)) (hd_recv C0.hK hH rfl h_xm) d_B_isAt_23 ?_
      refine gf_B_82 C0 hH h_xm rfl d_B_isAt_26 ?_
      refine lv_iload_n hx hb d_B_isAt_29 rfl (lv_at hl 2 rfl) ?_
      refine lv_icmp_ne (tgt := 37) hx hb d_B_isAt_30 (by decide) (fun c_30 => ?_) (fun c_30 => ?_)
      · refine lv_iconst (v := 0) hx hb d_B_isAt_37 (by decide) ?_
        exact W.zret hx hb hr rfl (fun t ht _ => ⟨congrArg (fun z => Outcome.returned (some (Value.int z))) (b01_f (fun ⟨_, h⟩ => c_30 h)).symm, ht⟩) (fun _ h => by cases h) d_B_isAt_38 (hlocks := C0.2.2.2.2.2.2)
      · refine lv_iconst (v := 1) hx hb d_B_isAt_33 (by decide) ?_
        refine lv_goto (tgt := 38) hx hb d_B_isAt_34 (by decide) ?_
        exact W.zret hx hb hr rfl (fun t ht _ => ⟨congrArg (fun z => Outcome.returned (some (Value.int z))) (b01_t ⟨hk, c_30⟩).symm, ht⟩) (fun _ h => by cases h) d_B_isAt_38 (hlocks := C0.2.2.2.2.2.2)

set_option maxHeartbeats 4000000 in
set_option maxRecDepth 100000 in
theorem k_B_requireBox (l : Launch) (G : Gl) (w : World) {x L F Gd E N : Nat} {nF md : Int32} {f : Nat → Option Nat} {bs : List Bx} (n : Int32) (k xk : Nat) (hB : w x = some (.inr (2, [.ref L, .ref F, .int nF, .ref Gd]))) (hLs : LsAt G w L E N f md bs) (hs : Srt bs) (hk : Lb bs n k) (h : ∃ h : k < bs.length, bs[k].1 = n) (hxk : f k = some xk) :
    PuM l y_B_requireBox ws_B_requireBox 4 G w [.ref x, .int n] (some (.ref xk)) := by
  refine met_ent (by decide +kernel) (Nat.le_of_ble_eq_true rfl) (fun p e s m below meth c ls C0 hr hin hH hl => ?_)
  have hx := C0.1
  have hb := C0.2.1
  have hS : va_S (gA G) s.heap s.heap [] := va_S.rf
  have hl : lv_has ls 3 [(0, .ref x), (1, .int n)] := hl
  obtain ⟨hL1, hL2, hL3, hL4, hL5⟩ := id hLs
  obtain ⟨hk1, -⟩ := id h
  refine lv_aload_n hx hb d_B_requireBox_0 rfl (lv_at hl 0 rfl) ?_
  refine lv_iload_n hx hb d_B_requireBox_1 rfl (lv_at hl 1 rfl) ?_
  refine pu_v (runV C0 (k_B_indexFor l G w n k hB hLs hs hk) (cs_B_41 C0 ⟨by decide, by decide⟩) hH hS (hd_recv C0.hK hH rfl hB) rfl hl.1 rfl (lv_room (Nat.le_of_ble_eq_true rfl)) d_B_requireBox_2 ⟨Nat.zero_le _, Nat.zero_le _⟩) ?_
  refine lv_istore_n (lv' := [(2, .int (nI k)), (0, .ref x), (1, .int n)]) hx hb d_B_requireBox_5 rfl hl (by decide) rfl (fun ls hl => ?_)
  refine lv_aload_n hx hb d_B_requireBox_6 rfl (lv_at hl 1 rfl) ?_
  refine lv_iload_n hx hb d_B_requireBox_7 rfl (lv_at hl 0 rfl) ?_
  refine lv_iload_n hx hb d_B_requireBox_8 rfl (lv_at hl 2 rfl) ?_
  refine pu_v (runV C0 (k_B_isAt l G w k n hk.1 hB hLs) (cs_B_45 C0 ⟨by decide, by decide⟩) hH hS (hd_recv C0.hK hH rfl hB) rfl hl.1 rfl (lv_room (Nat.le_of_ble_eq_true rfl)) d_B_requireBox_9 ⟨Nat.zero_le _, Nat.zero_le _⟩) ?_
  refine lv_if_ne (tgt := 25) hx hb d_B_requireBox_12 (by decide) (fun c_12 => ?_) (fun c_12 => ?_)
  · refine lv_aload_n hx hb d_B_requireBox_25 rfl (lv_at hl 1 rfl) ?_
    refine gf_B_10 C0 hH hB rfl d_B_requireBox_26 ?_
    refine lv_iload_n hx hb d_B_requireBox_29 rfl (lv_at hl 0 rfl) ?_
    obtain ⟨xm, hf_xm, h_xm⟩ := hL5 k (hk1)
    refine pu_v (runV C0 (k_A_get l G w hL1 (hLs.arr (by omega)) (i := k) (by omega) hL2 (by omega) hf_xm) (cs_B_75 C0 ⟨by decide, by decide⟩) hH hS (hd_recv C0.hK hH rfl hL1) rfl hl.1 rfl (lv_room (Nat.le_of_ble_eq_true rfl)) d_B_requireBox_30 ⟨Nat.zero_le _, Nat.zero_le _⟩) ?_
    refine va_castY hx hb C0.2.2.2.1 (C0.2.2.2.2.1 _ mw_104) (C0.ev.2.2.2.2.2.2.1 (Cond.castable "BoxDrawer$Box" "BoxDrawer$Box") (by decide +kernel)) (hd_recv C0.hK hH rfl h_xm) d_B_requireBox_33 ?_
    exact W.aret hx hb hr (Or.inl ⟨_, rfl⟩) (Or.inr ⟨_, rfl⟩) (fun t ht _ => ⟨by rw [Option.some.inj (hxk.symm.trans hf_xm)], ht⟩) (fun _ h => by cases h) d_B_requireBox_36 (hlocks := C0.2.2.2.2.2.2)
  · exact absurd c_12 (by rw [b01_t h]; decide)

set_option maxHeartbeats 4000000 in
set_option maxRecDepth 100000 in
theorem t_B_requireBox (l : Launch) (hlt : l.stackTraces = false) (G : Gl) (w : World) {x L F Gd E N : Nat} {nF md : Int32} {f : Nat → Option Nat} {bs : List Bx} (n : Int32) (k : Nat) (hB : w x = some (.inr (2, [.ref L, .ref F, .int nF, .ref Gd]))) (hLs : LsAt G w L E N f md bs) (hs : Srt bs) (hk : Lb bs n k) (h : ¬ ∃ h : k < bs.length, bs[k].1 = n) :
    ThM l y_B_requireBox ws_B_requireBox 6 G w [.ref x, .int n] "java/lang/IndexOutOfBoundsException" := by
  refine th_ent (by decide +kernel) (Nat.le_of_ble_eq_true rfl) (fun p e s m below meth c ls C0 ht hH hl => ?_)
  have hx := C0.1
  have hb := C0.2.1
  have hS : va_S (gA G) s.heap s.heap [] := va_S.rf
  have hl : lv_has ls 3 [(0, .ref x), (1, .int n)] := hl
  obtain ⟨hL1, hL2, hL3, hL4, hL5⟩ := id hLs
  refine lv_aload_n hx hb d_B_requireBox_0 rfl (lv_at hl 0 rfl) ?_
  refine lv_iload_n hx hb d_B_requireBox_1 rfl (lv_at hl 1 rfl) ?_
  refine pu_v (runV C0 (k_B_indexFor l G w n k hB hLs hs hk) (cs_B_41 C0 ⟨by decide, by decide⟩) hH hS (hd_recv C0.hK hH rfl hB) rfl hl.1 rfl (lv_room (Nat.le_of_ble_eq_true rfl)) d_B_requireBox_2 ⟨Nat.zero_le _, Nat.zero_le _⟩) ?_
  refine lv_istore_n (lv' := [(2, .int (nI k)), (0, .ref x), (1, .int n)]) hx hb d_B_requireBox_5 rfl hl (by decide) rfl (fun ls hl => ?_)
  refine lv_aload_n hx hb d_B_requireBox_6 rfl (lv_at hl 1 rfl) ?_
  refine lv_iload_n hx hb d_B_requireBox_7 rfl (lv_at hl 0 rfl) ?_
  refine lv_iload_n hx hb d_B_requireBox_8 rfl (lv_at hl 2 rfl) ?_
  refine pu_v (runV C0 (k_B_isAt l G w k n hk.1 hB hLs) (cs_B_45 C0 ⟨by decide, by decide⟩) hH hS (hd_recv C0.hK hH rfl hB) rfl hl.1 rfl (lv_room (Nat.le_of_ble_eq_true rfl)) d_B_requireBox_9 ⟨Nat.zero_le _, Nat.zero_le _⟩) ?_
  refine lv_if_ne (tgt := 25) hx hb d_B_requireBox_12 (by decide) (fun c_12 => ?_) (fun c_12 => ?_)
  · exact absurd (b01_f h) c_12
  · exact th_throw (text := "the box is not there") hlt C0 (by decide +kernel) mw_154 mw_9 at_io og_io (by decide +kernel) hl.1 d_B_requireBox_15 d_B_requireBox_18 d_B_requireBox_19 d_B_requireBox_21 d_B_requireBox_24 ht (by decide)
end
section
/-! the row of the result grows; distances -/
theorem wne {w : World} {a b : Nat} {e f : va_E} (h1 : w a = some e) (h2 : w b = some f) (hne : e ≠ f) : a ≠ b := fun q => by
  subst q
  exact hne (Option.some.inj (h1.symm.trans h2))
theorem wnf {w : World} {a b : Nat} {e : va_E} (h1 : w a = some e) (h2 : w b = none) : a ≠ b := fun q => by
  subst q
  rw [h1] at h2
  cases h2
theorem min_nI {a b : Nat} (ha : a < 2 ^ 31) (hb : b < 2 ^ 31) : (if nI b < nI a then nI b else nI a) = nI (min a b) := by
  by_cases h : b < a
  · rw [if_pos (nI_lt h ha), Nat.min_eq_right (by omega)]
  · rw [if_neg (nI_nlt (by omega) hb), Nat.min_eq_left (by omega)]
theorem max_nI {a b : Nat} (ha : a < 2 ^ 31) (hb : b < 2 ^ 31) : (if nI a < nI b then nI b else nI a) = nI (max a b) := by
  by_cases h : a < b
  · rw [if_pos (nI_lt h hb), Nat.max_eq_right (by omega)]
  · rw [if_neg (nI_nlt (by omega) ha), Nat.max_eq_left (by omega)]

set_option maxHeartbeats 4000000 in
set_option maxRecDepth 100000 in
theorem k_R_copyOf (l : Launch) (G : Gl) (w : World) {a cF : Nat} {g : Nat → Int32} (c1 : Nat) (ha : w a = some (.inl (G.2.1.1, cF, .inl g))) (h1 : cF < c1) (h2 : c1 ≤ 4096) :
    GnQ l y_R_copyOf ws_R_copyOf 1 1 c1 G w [.ref a, .int (nI c1)] (fun r w1 => ∃ q : Nat, r = some q ∧ w q = none ∧ w1 = va_up w q (some (.inl (G.2.1.1, c1, .inl (va_cpy g (fun _ => 0) 0 0 cF))))) := by
  refine met_ent (by decide +kernel) (Nat.le_of_ble_eq_true rfl) (fun p e s m below meth c ls C0 hr hin hH hl => ?_)
  have hx := C0.1
  have hb := C0.2.1
  have hS : va_S (gA G) s.heap s.heap [] := va_S.rf
  have hA : ∀ q : Nat, s.heap.size ≤ q → gA G q := fun q h => Nat.le_trans C0.ev.2.2.2.2.2.2.2.2.2.2.2.2 h
  have hl : lv_has ls 3 [(0, .ref a), (1, .int (nI c1))] := hl
  refine lv_iload_n hx hb d_R_copyOf_0 rfl (lv_at hl 1 rfl) ?_
  refine lv_aload_n hx hb d_R_copyOf_1 rfl (lv_at hl 0 rfl) ?_
  refine hd_alen hx hb C0.hK hH 0 ha rfl (v := nI cF) rfl d_R_copyOf_2 ?_
  refine lv_icmp_ne (tgt := 14) hx hb d_R_copyOf_3 (by decide) (fun c_3 => ?_) (fun c_3 => ?_)
  · refine lv_iload_n hx hb d_R_copyOf_14 rfl (lv_at hl 1 rfl) ?_
    refine hd_newa (atype := .int) (N' := c1) (a0 := (c1, .inl (fun _ => 0))) hx hb (C0.2.2.2.2.1 _ mw_72) rfl (by intro C h; cases h) C0.hK 0 rfl hH hS hA (fun _ => rfl) (nI_pos (by omega)) (nI_clamp (by omega)) (by show _ * 4 ≤ _; omega) (by show _ ≤ 1; omega) (by show _ ≤ c1; omega) d_R_copyOf_15 (fun q15 H hnq15 hH hS => ?_)
    obtain ⟨w1, ew1⟩ : ∃ z : World, z = va_up w q15 (some (.inl (G.2.1.1, c1, .inl (fun _ => 0)))) := ⟨_, rfl⟩
    have hH : Hw G w1 H := by rw [ew1]; exact hH
    have hw1_a : w1 a = some (.inl (G.2.1.1, cF, .inl g)) := by rw [ew1, va_up_ne _ _ (wnf ha hnq15)]; exact ha
    have hw1_q15 : w1 q15 = some (.inl (G.2.1.1, c1, .inl (fun _ => 0))) := by rw [ew1]; exact va_up_self _ _ _
    refine lv_astore_n (lv' := [(2, .ref q15), (0, .ref a), (1, .int (nI c1))]) hx hb d_R_copyOf_17 rfl hl (by decide) rfl (fun ls hl => ?_)
    refine lv_aload_n hx hb d_R_copyOf_18 rfl (lv_at hl 1 rfl) ?_
    refine lv_iconst (v := 0) hx hb d_R_copyOf_19 (by decide) ?_
    refine lv_aload_n hx hb d_R_copyOf_20 rfl (lv_at hl 0 rfl) ?_
    refine lv_iconst (v := 0) hx hb d_R_copyOf_21 (by decide) ?_
    refine lv_aload_n hx hb d_R_copyOf_22 rfl (lv_at hl 1 rfl) ?_
    refine hd_alen hx hb C0.hK hH 0 hw1_a rfl (v := nI cF) rfl d_R_copyOf_23 ?_
    refine lv_iload_n hx hb d_R_copyOf_24 rfl (lv_at hl 2 rfl) ?_
    refine va_mmin hx hb (C0.2.2.1.trans hl.1.symm) C0.2.2.2.1 (C0.2.2.2.2.1 _ mw_134) (C0.2.2.2.2.1 _ mw_122) (C0.2.2.2.2.1 _ mw_19) (C0.2.2.2.2.1 _ mw_123) (Nat.le_of_ble_eq_true rfl) (Nat.le_of_ble_eq_true rfl) (by show _ ≤ 1; omega) (by show _ ≤ c1; omega) d_R_copyOf_25 ?_
    rw [show (if (nI c1) < (nI cF) then (nI c1) else (nI cF)) = nI cF from ((min_nI (by omega) (by omega)).trans (by rw [Nat.min_eq_left (by omega)]))]
    refine hd_copyi hx hb (C0.2.2.1.trans hl.1.symm) C0.2.2.2.1 (C0.2.2.2.2.1 _ mw_135) (C0.2.2.2.2.1 _ mw_137) (C0.2.2.2.2.1 _ mw_136) (C0.2.2.2.2.1 _ mw_21) C0.hK hH hS 0 hw1_a hw1_q15 rfl (by decide) (by decide) (nI_pos (by omega)) (by rw [nI_clamp (by omega), sb_cl0]; omega) (by rw [nI_clamp (by omega), sb_cl0]; omega) (Nat.le_of_ble_eq_true rfl) (Nat.le_of_ble_eq_true rfl) d_R_copyOf_28 (fun H locs hH hS => ?_)
    rw [nI_clamp (by omega), sb_cl0] at hH
    obtain ⟨w2, ew2⟩ : ∃ z : World, z = va_up w1 q15 (some (.inl (G.2.1.1, c1, .inl (va_cpy g (fun _ => 0) 0 0 cF)))) := ⟨_, rfl⟩
    have hH : Hw G w2 H := by rw [ew2]; exact hH
    have hw2_a : w2 a = some (.inl (G.2.1.1, cF, .inl g)) := by rw [ew2, va_up_ne _ _ (wnf ha hnq15)]; exact hw1_a
    have hw2_q15 : w2 q15 = some (.inl (G.2.1.1, c1, .inl (va_cpy g (fun _ => 0) 0 0 cF))) := by rw [ew2]; exact va_up_self _ _ _
    refine lv_aload_n hx hb d_R_copyOf_31 rfl (lv_at hl 0 rfl) ?_
    refine W.widen (k := 1) (n := c1) (by omega) (by omega) ?_
    exact W.aret hx hb hr (Or.inr ⟨_, rfl⟩) (Or.inr ⟨_, rfl⟩) (fun t ht hW => ⟨⟨some q15, w2, rfl, ⟨_, rfl, hnq15, by rw [ew2, ew1, bx_uu]⟩, Wo.at C0.ev hH hS ht hW⟩, hS.F ht⟩) hS.2.2 d_R_copyOf_32 (hlocks := C0.2.2.2.2.2.2)
  · exact absurd ((nI_eq (by omega) (by omega)).mp c_3) (by omega)

set_option maxHeartbeats 4000000 in
set_option maxRecDepth 100000 in
theorem k_B_makeRoom0 (l : Launch) (G : Gl) (w : World) {x L F Gd cF : Nat} {n : Int32} {g : Nat → Int32} (hB : w x = some (.inr (2, [.ref L, .ref F, .int n, .ref Gd]))) (hF : w F = some (.inl (G.2.1.1, cF, .inl g))) (k : Nat) (h1 : k ≤ cF ∨ 4096 ≤ cF) (hk : k ≤ 100000) (h2 : cF ≤ 4096) :
    PuM l y_B_makeRoom ws_B_makeRoom 2 G w [.ref x, .int (nI k)] none := by
  refine met_ent (by decide +kernel) (Nat.le_of_ble_eq_true rfl) (fun p e s m below meth c ls C0 hr hin hH hl => ?_)
  have hx := C0.1
  have hb := C0.2.1
  have hS : va_S (gA G) s.heap s.heap [] := va_S.rf
  have hA : ∀ q : Nat, s.heap.size ≤ q → gA G q := fun q h => Nat.le_trans C0.ev.2.2.2.2.2.2.2.2.2.2.2.2 h
  have hl : lv_has ls 3 [(0, .ref x), (1, .int (nI k))] := hl
  refine lv_iload_n hx hb d_B_makeRoom_0 rfl (lv_at hl 1 rfl) ?_
  refine lv_aload_n hx hb d_B_makeRoom_1 rfl (lv_at hl 0 rfl) ?_
  refine gf_B_16 C0 hH hB rfl d_B_makeRoom_2 ?_
  refine hd_alen hx hb C0.hK hH 0 hF rfl (v := nI cF) rfl d_B_makeRoom_5 ?_
  refine lv_icmp_le (tgt := 50) hx hb d_B_makeRoom_6 (by decide) (fun c_6 => ?_) (fun c_6 => ?_)
  · exact W.vret hx hb hr (fun t ht _ => ⟨rfl, ht⟩) (fun _ h => by cases h) d_B_makeRoom_50 (hlocks := C0.2.2.2.2.2.2)
  · refine lv_aload_n hx hb d_B_makeRoom_9 rfl (lv_at hl 0 rfl) ?_
    refine gf_B_16 C0 hH hB rfl d_B_makeRoom_10 ?_
    refine hd_alen hx hb C0.hK hH 0 hF rfl (v := nI cF) rfl d_B_makeRoom_13 ?_
    refine lv_sipush (v := 4096) hx hb d_B_makeRoom_14 (by decide) ?_
    refine lv_icmp_ge (tgt := 50) hx hb d_B_makeRoom_17 (by decide) (fun c_17 => ?_) (fun c_17 => ?_)
    · exact W.vret hx hb hr (fun t ht _ => ⟨rfl, ht⟩) (fun _ h => by cases h) d_B_makeRoom_50 (hlocks := C0.2.2.2.2.2.2)
    · exact absurd h1 (fun h => h.elim (fun h => c_6 (nI_le h (by omega))) (fun h => c_17 (show nI 4096 ≤ nI cF from nI_le h (by omega))))

set_option maxHeartbeats 4000000 in
set_option maxRecDepth 100000 in
theorem k_B_makeRoom1 (l : Launch) (G : Gl) (w : World) {x L F Gd cF : Nat} {n : Int32} {g : Nat → Int32} (hB : w x = some (.inr (2, [.ref L, .ref F, .int n, .ref Gd]))) (hF : w F = some (.inl (G.2.1.1, cF, .inl g))) (k c1 : Nat) (h1 : cF < k) (h0 : k ≤ 100000) (h2 : cF < 4096) (hc : c1 = min (max k (2 * cF)) 4096) :
    GnV l y_B_makeRoom ws_B_makeRoom 2 1 c1 G w [.ref x, .int (nI k)] (fun w1 => ∃ F1 : Nat, w F1 = none ∧ w1 = va_up (va_up w F1 (some (.inl (G.2.1.1, c1, .inl (va_cpy g (fun _ => 0) 0 0 cF))))) x (some (.inr (2, [.ref L, .ref F1, .int n, .ref Gd])))) := by
  refine met_ent (by decide +kernel) (Nat.le_of_ble_eq_true rfl) (fun p e s m below meth c ls C0 hr hin hH hl => ?_)
  have hx := C0.1
  have hb := C0.2.1
  have hS : va_S (gA G) s.heap s.heap [] := va_S.rf
  have hA : ∀ q : Nat, s.heap.size ≤ q → gA G q := fun q h => Nat.le_trans C0.ev.2.2.2.2.2.2.2.2.2.2.2.2 h
  have hl : lv_has ls 3 [(0, .ref x), (1, .int (nI k))] := hl
  refine lv_iload_n hx hb d_B_makeRoom_0 rfl (lv_at hl 1 rfl) ?_
  refine lv_aload_n hx hb d_B_makeRoom_1 rfl (lv_at hl 0 rfl) ?_
  refine gf_B_16 C0 hH hB rfl d_B_makeRoom_2 ?_
  refine hd_alen hx hb C0.hK hH 0 hF rfl (v := nI cF) rfl d_B_makeRoom_5 ?_
  refine lv_icmp_le (tgt := 50) hx hb d_B_makeRoom_6 (by decide) (fun c_6 => ?_) (fun c_6 => ?_)
  · exact absurd c_6 (Int32.not_le.mpr (nI_lt h1 (by omega)))
  · refine lv_aload_n hx hb d_B_makeRoom_9 rfl (lv_at hl 0 rfl) ?_
    refine gf_B_16 C0 hH hB rfl d_B_makeRoom_10 ?_
    refine hd_alen hx hb C0.hK hH 0 hF rfl (v := nI cF) rfl d_B_makeRoom_13 ?_
    refine lv_sipush (v := 4096) hx hb d_B_makeRoom_14 (by decide) ?_
    refine lv_icmp_ge (tgt := 50) hx hb d_B_makeRoom_17 (by decide) (fun c_17 => ?_) (fun c_17 => ?_)
    · exact absurd c_17 (Int32.not_le.mpr (show nI cF < nI 4096 from nI_lt h2 (by omega)))
    · refine lv_iload_n hx hb d_B_makeRoom_20 rfl (lv_at hl 1 rfl) ?_
      refine lv_iconst (v := 2) hx hb d_B_makeRoom_21 (by decide) ?_
      refine lv_aload_n hx hb d_B_makeRoom_22 rfl (lv_at hl 0 rfl) ?_
      refine gf_B_16 C0 hH hB rfl d_B_makeRoom_23 ?_
      refine hd_alen hx hb C0.hK hH 0 hF rfl (v := nI cF) rfl d_B_makeRoom_26 ?_
      refine lv_imul hx hb d_B_makeRoom_27 ?_
      rw [show (2 : Int32) * nI cF = nI (2 * cF) from pk_mul 2 cF]
      refine va_mmax hx hb (C0.2.2.1.trans hl.1.symm) C0.2.2.2.1 (C0.2.2.2.2.1 _ mw_118) (C0.2.2.2.2.1 _ mw_119) (C0.2.2.2.2.1 _ mw_19) (C0.2.2.2.2.1 _ mw_120) (Nat.le_of_ble_eq_true rfl) (Nat.le_of_ble_eq_true rfl) (by show _ ≤ 1; omega) (by show _ ≤ c1; omega) d_B_makeRoom_28 ?_
      rw [show (if (nI k) < (nI (2 * cF)) then (nI (2 * cF)) else (nI k)) = nI (max k (2 * cF)) from max_nI (by omega) (by omega)]
      refine lv_istore_n (lv' := [(2, .int (nI (max k (2 * cF)))), (0, .ref x), (1, .int (nI k))]) hx hb d_B_makeRoom_31 rfl hl (by decide) rfl (fun ls hl => ?_)
      refine lv_aload_n hx hb d_B_makeRoom_32 rfl (lv_at hl 1 rfl) ?_
      refine lv_aload_n hx hb d_B_makeRoom_33 rfl (lv_at hl 1 rfl) ?_
      refine gf_B_16 C0 hH hB rfl d_B_makeRoom_34 ?_
      refine lv_iload_n hx hb d_B_makeRoom_37 rfl (lv_at hl 0 rfl) ?_
      refine lv_sipush (v := 4096) hx hb d_B_makeRoom_38 (by decide) ?_
      refine va_mmin hx hb (C0.2.2.1.trans hl.1.symm) C0.2.2.2.1 (C0.2.2.2.2.1 _ mw_121) (C0.2.2.2.2.1 _ mw_122) (C0.2.2.2.2.1 _ mw_19) (C0.2.2.2.2.1 _ mw_123) (Nat.le_of_ble_eq_true rfl) (Nat.le_of_ble_eq_true rfl) (by show _ ≤ 1; omega) (by show _ ≤ c1; omega) d_B_makeRoom_41 ?_
      rw [show (if 4096 < (nI (max k (2 * cF))) then 4096 else (nI (max k (2 * cF)))) = nI c1 from (show (if nI 4096 < nI (max k (2 * cF)) then nI 4096 else nI (max k (2 * cF))) = nI c1 by rw [hc]; exact min_nI (by omega) (by omega))]
      refine gn_q (runS C0 (k_R_copyOf l G w c1 hF (by omega) (by omega)) (cs_B_164 C0 ⟨Nat.le_of_ble_eq_true rfl, Nat.le_of_ble_eq_true rfl⟩) hH hS rfl hl.1 rfl (lv_room (Nat.le_of_ble_eq_true rfl)) d_B_makeRoom_44 ⟨by show _ ≤ 1; omega, by show _ ≤ c1; omega⟩) hS (fun r1 w1 H locs hp1 hH hS => ?_)
      obtain ⟨F1, rfl, hnF1, ew1⟩ := hp1
      have hw1_x : w1 x = some (.inr (2, [.ref L, .ref F, .int n, .ref Gd])) := by rw [ew1, va_up_ne _ _ (wnf hB hnF1)]; exact hB
      refine pf_B_16 C0 hH hS hw1_x rfl rfl (Nat.le_of_ble_eq_true rfl) d_B_makeRoom_47 (fun H locs hH hS => ?_)
      obtain ⟨w2, ew2⟩ : ∃ z : World, z = va_up w1 x (some (.inr (2, [.ref L, .ref F1, .int n, .ref Gd]))) := ⟨_, rfl⟩
      have hH : Hw G w2 H := by rw [ew2]; exact hH
      have hw2_x : w2 x = some (.inr (2, [.ref L, .ref F1, .int n, .ref Gd])) := by rw [ew2]; exact va_up_self _ _ _
      refine W.widen (k := 1) (n := c1) (by omega) (by omega) ?_
      exact W.vret hx hb hr (fun t ht hW => ⟨⟨w2, rfl, ⟨F1, hnF1, by rw [ew2, ew1]⟩, Wo.at C0.ev hH hS ht hW⟩, hS.F ht⟩) hS.2.2 d_B_makeRoom_50 (hlocks := C0.2.2.2.2.2.2)
end
section
/-! append, the row of distances -/
/-- what was there is there as it was, but at the addresses S -/
def Kp (w w1 : World) (S : List Nat) : Prop := ∀ (b : Nat) (e : va_E), w b = some e → b ∉ S → w1 b = some e
theorem Kp.rf {w : World} {S : List Nat} : Kp w w S := fun _ _ h _ => h
theorem Kp.trans {w w1 w2 : World} {S S1 : List Nat} (h1 : Kp w w1 S) (h2 : Kp w1 w2 S1) (h : ∀ b ∈ S1, b ∈ S ∨ w b = none) : Kp w w2 S := fun b e hb hn => h2 b e (h1 b e hb hn) (fun hm => (h b hm).elim hn (fun q => by rw [hb] at q; cases q))
theorem Kp.up {w : World} {a : Nat} {e : va_E} {S : List Nat} (h : a ∈ S ∨ w a = none) : Kp w (va_up w a (some e)) S := fun b f hb hn => by
  have : b ≠ a := fun q => by
    subst q
    rcases h with h | h
    · exact hn h
    · rw [hb] at h; cases h
  rw [va_up_ne _ _ this]; exact hb
theorem Kp.mono {w w1 : World} {S S1 : List Nat} (h : Kp w w1 S) (hs : ∀ b ∈ S, b ∈ S1 ∨ w b = none) : Kp w w1 S1 := fun b e hb hn => h b e hb (fun hm => (hs b hm).elim hn (fun q => by rw [hb] at q; cases q))
/-- the row after append -/
def AppQ (G : Gl) (w w1 : World) (x L F Gd nF c1 : Nat) (v : Int32) (g : Nat → Int32) : Prop := ∃ (F1 : Nat) (g1 : Nat → Int32), (F1 = F ∨ w F1 = none) ∧ w1 F1 = some (.inl (G.2.1.1, c1, .inl g1)) ∧ (∀ i : Nat, i < nF → g1 i = g i) ∧ g1 nF = v ∧ w1 x = some (.inr (2, [.ref L, .ref F1, .int (nI (nF + 1)), .ref Gd])) ∧ Kp w w1 [x, F]

set_option maxHeartbeats 4000000 in
set_option maxRecDepth 100000 in
theorem k_B_append0 (l : Launch) (G : Gl) (w : World) {x L F Gd cF nF : Nat} {g : Nat → Int32} (hB : w x = some (.inr (2, [.ref L, .ref F, .int (nI nF), .ref Gd]))) (hF : w F = some (.inl (G.2.1.1, cF, .inl g))) (v : Int32) (h1 : nF < cF) (h2 : cF ≤ 4096) :
    GnV l y_B_append ws_B_append 3 0 0 G w [.ref x, .int v] (fun w1 => AppQ G w w1 x L F Gd nF cF v g) := by
  refine met_ent (by decide +kernel) (Nat.le_of_ble_eq_true rfl) (fun p e s m below meth c ls C0 hr hin hH hl => ?_)
  have hx := C0.1
  have hb := C0.2.1
  have hS : va_S (gA G) s.heap s.heap [] := va_S.rf
  have hA : ∀ q : Nat, s.heap.size ≤ q → gA G q := fun q h => Nat.le_trans C0.ev.2.2.2.2.2.2.2.2.2.2.2.2 h
  have hl : lv_has ls 2 [(0, .ref x), (1, .int v)] := hl
  refine lv_aload_n hx hb d_B_append_0 rfl (lv_at hl 0 rfl) ?_
  refine lv_aload_n hx hb d_B_append_1 rfl (lv_at hl 0 rfl) ?_
  refine gf_B_20 C0 hH hB rfl d_B_append_2 ?_
  refine lv_iconst (v := 1) hx hb d_B_append_5 (by decide) ?_
  refine lv_iadd hx hb d_B_append_6 ?_
  rw [show ((nI nF) + 1) = nI (nF + 1) from nI_1 nF]
  refine pu_n (runV C0 (k_B_makeRoom0 l G w hB hF (nF + 1) (Or.inl (by omega)) (by omega) h2) (cs_B_100 C0 ⟨Nat.le_of_ble_eq_true rfl, Nat.le_of_ble_eq_true rfl⟩) hH hS (hd_recv C0.hK hH rfl hB) rfl hl.1 rfl (lv_room (Nat.le_of_ble_eq_true rfl)) d_B_append_7 ⟨by show _ ≤ 0; omega, by show _ ≤ 0; omega⟩) ?_
  refine lv_aload_n hx hb d_B_append_10 rfl (lv_at hl 0 rfl) ?_
  refine gf_B_20 C0 hH hB rfl d_B_append_11 ?_
  refine lv_aload_n hx hb d_B_append_14 rfl (lv_at hl 0 rfl) ?_
  refine gf_B_16 C0 hH hB rfl d_B_append_15 ?_
  refine hd_alen hx hb C0.hK hH 0 hF rfl (v := nI cF) rfl d_B_append_18 ?_
  refine lv_icmp_ge (tgt := 42) hx hb d_B_append_19 (by decide) (fun c_19 => ?_) (fun c_19 => ?_)
  · exact absurd c_19 (Int32.not_le.mpr (nI_lt h1 (by omega)))
  · refine lv_aload_n hx hb d_B_append_22 rfl (lv_at hl 0 rfl) ?_
    refine gf_B_16 C0 hH hB rfl d_B_append_23 ?_
    refine lv_aload_n hx hb d_B_append_26 rfl (lv_at hl 0 rfl) ?_
    refine gf_B_20 C0 hH hB rfl d_B_append_27 ?_
    refine lv_iload_n hx hb d_B_append_30 rfl (lv_at hl 1 rfl) ?_
    refine hd_iast hx hb C0.hK hH hS 0 hF rfl (vp_in_nI (by omega) (by omega)) d_B_append_31 (fun H locs hH hS => ?_)
    rw [nI_clamp (by omega)] at hH
    obtain ⟨w1, ew1⟩ : ∃ z : World, z = va_up w F (some (.inl (G.2.1.1, cF, .inl (upd g nF v)))) := ⟨_, rfl⟩
    have hH : Hw G w1 H := by rw [ew1]; exact hH
    have hw1_x : w1 x = some (.inr (2, [.ref L, .ref F, .int (nI nF), .ref Gd])) := by rw [ew1, va_up_ne _ _ (wne hB hF (by simp))]; exact hB
    have hw1_F : w1 F = some (.inl (G.2.1.1, cF, .inl (upd g nF v))) := by rw [ew1]; exact va_up_self _ _ _
    refine lv_aload_n hx hb d_B_append_32 rfl (lv_at hl 0 rfl) ?_
    refine lv_dup hx hb d_B_append_33 rfl ?_
    refine gf_B_20 C0 hH hw1_x rfl d_B_append_34 ?_
    refine lv_iconst (v := 1) hx hb d_B_append_37 (by decide) ?_
    refine lv_iadd hx hb d_B_append_38 ?_
    rw [show ((nI nF) + 1) = nI (nF + 1) from nI_1 nF]
    refine pf_B_20 C0 hH hS hw1_x rfl rfl (Nat.le_of_ble_eq_true rfl) d_B_append_39 (fun H locs hH hS => ?_)
    obtain ⟨w2, ew2⟩ : ∃ z : World, z = va_up w1 x (some (.inr (2, [.ref L, .ref F, .int (nI (nF + 1)), .ref Gd]))) := ⟨_, rfl⟩
    have hH : Hw G w2 H := by rw [ew2]; exact hH
    have hw2_F : w2 F = some (.inl (G.2.1.1, cF, .inl (upd g nF v))) := by rw [ew2, va_up_ne _ _ (wne hw1_F hw1_x (by simp))]; exact hw1_F
    have hw2_x : w2 x = some (.inr (2, [.ref L, .ref F, .int (nI (nF + 1)), .ref Gd])) := by rw [ew2]; exact va_up_self _ _ _
    refine W.widen (k := 0) (n := 0) (by omega) (by omega) ?_
    exact W.vret hx hb hr (fun t ht hW => ⟨⟨w2, rfl, ⟨F, _, Or.inl rfl, hw2_F, fun i hi => by simp [upd, Nat.ne_of_lt hi], by simp [upd], hw2_x, by rw [ew2, ew1]; exact (Kp.up (Or.inl (by simp))).trans (Kp.up (Or.inl (List.mem_cons_self ..))) (by intro b hb; exact Or.inl hb)⟩, Wo.at C0.ev hH hS ht hW⟩, hS.F ht⟩) hS.2.2 d_B_append_42 (hlocks := C0.2.2.2.2.2.2)

set_option maxHeartbeats 4000000 in
set_option maxRecDepth 100000 in
theorem k_B_append1 (l : Launch) (G : Gl) (w : World) {x L F Gd cF nF : Nat} {g : Nat → Int32} (hB : w x = some (.inr (2, [.ref L, .ref F, .int (nI nF), .ref Gd]))) (hF : w F = some (.inl (G.2.1.1, cF, .inl g))) (v : Int32) (c1 : Nat) (h1 : nF = cF) (h0 : 0 < cF) (h2 : cF < 4096) (hc : c1 = min (2 * cF) 4096) :
    GnV l y_B_append ws_B_append 3 1 c1 G w [.ref x, .int v] (fun w1 => AppQ G w w1 x L F Gd nF c1 v g) := by
  refine met_ent (by decide +kernel) (Nat.le_of_ble_eq_true rfl) (fun p e s m below meth c ls C0 hr hin hH hl => ?_)
  have hx := C0.1
  have hb := C0.2.1
  have hS : va_S (gA G) s.heap s.heap [] := va_S.rf
  have hA : ∀ q : Nat, s.heap.size ≤ q → gA G q := fun q h => Nat.le_trans C0.ev.2.2.2.2.2.2.2.2.2.2.2.2 h
  have hl : lv_has ls 2 [(0, .ref x), (1, .int v)] := hl
  refine lv_aload_n hx hb d_B_append_0 rfl (lv_at hl 0 rfl) ?_
  refine lv_aload_n hx hb d_B_append_1 rfl (lv_at hl 0 rfl) ?_
  refine gf_B_20 C0 hH hB rfl d_B_append_2 ?_
  refine lv_iconst (v := 1) hx hb d_B_append_5 (by decide) ?_
  refine lv_iadd hx hb d_B_append_6 ?_
  rw [show ((nI nF) + 1) = nI (nF + 1) from nI_1 nF]
  refine gn_v (runV C0 (k_B_makeRoom1 l G w hB hF (nF + 1) c1 (by omega) (by omega) h2 (by rw [hc, Nat.max_eq_right (by omega)])) (cs_B_100 C0 ⟨Nat.le_of_ble_eq_true rfl, Nat.le_of_ble_eq_true rfl⟩) hH hS (hd_recv C0.hK hH rfl hB) rfl hl.1 rfl (lv_room (Nat.le_of_ble_eq_true rfl)) d_B_append_7 ⟨by show _ ≤ 1; omega, by show _ ≤ c1; omega⟩) hS (fun w1 H locs hp1 hH hS => ?_)
  obtain ⟨F1, hnF1, ew1⟩ := hp1
  have hw1_x : w1 x = some (.inr (2, [.ref L, .ref F1, .int (nI nF), .ref Gd])) := by rw [ew1]; exact va_up_self _ _ _
  have hw1_F1 : w1 F1 = some (.inl (G.2.1.1, c1, .inl (va_cpy g (fun _ => 0) 0 0 cF))) := by rw [ew1, va_up_ne _ _ (wnf hB hnF1).symm]; exact va_up_self _ _ _
  refine lv_aload_n hx hb d_B_append_10 rfl (lv_at hl 0 rfl) ?_
  refine gf_B_20 C0 hH hw1_x rfl d_B_append_11 ?_
  refine lv_aload_n hx hb d_B_append_14 rfl (lv_at hl 0 rfl) ?_
  refine gf_B_16 C0 hH hw1_x rfl d_B_append_15 ?_
  refine hd_alen hx hb C0.hK hH 0 hw1_F1 rfl (v := nI c1) rfl d_B_append_18 ?_
  refine lv_icmp_ge (tgt := 42) hx hb d_B_append_19 (by decide) (fun c_19 => ?_) (fun c_19 => ?_)
  · exact absurd c_19 (Int32.not_le.mpr (nI_lt (show nF < c1 by omega) (by omega)))
  · refine lv_aload_n hx hb d_B_append_22 rfl (lv_at hl 0 rfl) ?_
    refine gf_B_16 C0 hH hw1_x rfl d_B_append_23 ?_
    refine lv_aload_n hx hb d_B_append_26 rfl (lv_at hl 0 rfl) ?_
    refine gf_B_20 C0 hH hw1_x rfl d_B_append_27 ?_
    refine lv_iload_n hx hb d_B_append_30 rfl (lv_at hl 1 rfl) ?_
    refine hd_iast hx hb C0.hK hH hS 0 hw1_F1 rfl (vp_in_nI (by omega) (by omega)) d_B_append_31 (fun H locs hH hS => ?_)
    rw [nI_clamp (by omega)] at hH
    obtain ⟨w2, ew2⟩ : ∃ z : World, z = va_up w1 F1 (some (.inl (G.2.1.1, c1, .inl (upd (va_cpy g (fun _ => 0) 0 0 cF) nF v)))) := ⟨_, rfl⟩
    have hH : Hw G w2 H := by rw [ew2]; exact hH
    have hw2_x : w2 x = some (.inr (2, [.ref L, .ref F1, .int (nI nF), .ref Gd])) := by rw [ew2, va_up_ne _ _ (wne hw1_x hw1_F1 (by simp))]; exact hw1_x
    have hw2_F1 : w2 F1 = some (.inl (G.2.1.1, c1, .inl (upd (va_cpy g (fun _ => 0) 0 0 cF) nF v))) := by rw [ew2]; exact va_up_self _ _ _
    refine lv_aload_n hx hb d_B_append_32 rfl (lv_at hl 0 rfl) ?_
    refine lv_dup hx hb d_B_append_33 rfl ?_
    refine gf_B_20 C0 hH hw2_x rfl d_B_append_34 ?_
    refine lv_iconst (v := 1) hx hb d_B_append_37 (by decide) ?_
    refine lv_iadd hx hb d_B_append_38 ?_
    rw [show ((nI nF) + 1) = nI (nF + 1) from nI_1 nF]
    refine pf_B_20 C0 hH hS hw2_x rfl rfl (Nat.le_of_ble_eq_true rfl) d_B_append_39 (fun H locs hH hS => ?_)
    obtain ⟨w3, ew3⟩ : ∃ z : World, z = va_up w2 x (some (.inr (2, [.ref L, .ref F1, .int (nI (nF + 1)), .ref Gd]))) := ⟨_, rfl⟩
    have hH : Hw G w3 H := by rw [ew3]; exact hH
    have hw3_F1 : w3 F1 = some (.inl (G.2.1.1, c1, .inl (upd (va_cpy g (fun _ => 0) 0 0 cF) nF v))) := by rw [ew3, va_up_ne _ _ (wne hw2_F1 hw2_x (by simp))]; exact hw2_F1
    have hw3_x : w3 x = some (.inr (2, [.ref L, .ref F1, .int (nI (nF + 1)), .ref Gd])) := by rw [ew3]; exact va_up_self _ _ _
    refine W.widen (k := 1) (n := c1) (by omega) (by omega) ?_
    exact W.vret hx hb hr (fun t ht hW => ⟨⟨w3, rfl, ⟨F1, _, Or.inr hnF1, hw3_F1, fun i hi => by simp only [upd]; rw [if_neg (Nat.ne_of_lt hi), pk_cpy_in (Nat.zero_le _) (by omega)]; simp, by simp [upd], hw3_x, by rw [ew3, ew2]; refine Kp.trans ?_ (Kp.trans (Kp.up (S := [x, F1]) (Or.inl (by simp))) (Kp.up (Or.inl (List.mem_cons_self ..))) (by intro b hb; exact Or.inl hb)) (by intro b hb; simp only [List.mem_cons, List.not_mem_nil, or_false] at hb; rcases hb with h | h; (exact Or.inl (by simp [h])); (exact Or.inr (by rw [h]; exact hnF1))); rw [ew1]; exact (Kp.up (Or.inr hnF1)).trans (Kp.up (S := [x]) (Or.inl (by simp))) (by intro b hb; simp at hb; subst hb; exact Or.inl (by simp))⟩, Wo.at C0.ev hH hS ht hW⟩, hS.F ht⟩) hS.2.2 d_B_append_42 (hlocks := C0.2.2.2.2.2.2)

set_option maxHeartbeats 4000000 in
set_option maxRecDepth 100000 in
theorem k_B_mrd0 (l : Launch) (G : Gl) (w : World) {x L F Gd cF cG : Nat} {n : Int32} {g : Nat → Int32} {d : Nat → Int64} (hB : w x = some (.inr (2, [.ref L, .ref F, .int n, .ref Gd]))) (hF : w F = some (.inl (G.2.1.1, cF, .inl g))) (hG : w Gd = some (.inl (G.2.1.2.1, cG, .inr (.inl d)))) (h1 : cF ≤ cG) (h2 : cG ≤ 4096) :
    PuM l y_B_makeRoomForDistances ws_B_makeRoomForDistances 0 G w [.ref x] none := by
  refine met_ent (by decide +kernel) (Nat.le_of_ble_eq_true rfl) (fun p e s m below meth c ls C0 hr hin hH hl => ?_)
  have hx := C0.1
  have hb := C0.2.1
  have hS : va_S (gA G) s.heap s.heap [] := va_S.rf
  have hA : ∀ q : Nat, s.heap.size ≤ q → gA G q := fun q h => Nat.le_trans C0.ev.2.2.2.2.2.2.2.2.2.2.2.2 h
  have hl : lv_has ls 1 [(0, .ref x)] := hl
  refine lv_aload_n hx hb d_B_makeRoomForDistances_0 rfl (lv_at hl 0 rfl) ?_
  refine gf_B_24 C0 hH hB rfl d_B_makeRoomForDistances_1 ?_
  refine hd_alen hx hb C0.hK hH 1 hG rfl (v := nI cG) rfl d_B_makeRoomForDistances_4 ?_
  refine lv_aload_n hx hb d_B_makeRoomForDistances_5 rfl (lv_at hl 0 rfl) ?_
  refine gf_B_16 C0 hH hB rfl d_B_makeRoomForDistances_6 ?_
  refine hd_alen hx hb C0.hK hH 0 hF rfl (v := nI cF) rfl d_B_makeRoomForDistances_9 ?_
  refine lv_icmp_ge (tgt := 24) hx hb d_B_makeRoomForDistances_10 (by decide) (fun c_10 => ?_) (fun c_10 => ?_)
  · exact W.vret hx hb hr (fun t ht _ => ⟨rfl, ht⟩) (fun _ h => by cases h) d_B_makeRoomForDistances_24 (hlocks := C0.2.2.2.2.2.2)
  · exact absurd (nI_le h1 (by omega)) c_10

set_option maxHeartbeats 4000000 in
set_option maxRecDepth 100000 in
theorem k_B_mrd1 (l : Launch) (G : Gl) (w : World) {x L F Gd cF cG : Nat} {n : Int32} {g : Nat → Int32} {d : Nat → Int64} (hB : w x = some (.inr (2, [.ref L, .ref F, .int n, .ref Gd]))) (hF : w F = some (.inl (G.2.1.1, cF, .inl g))) (hG : w Gd = some (.inl (G.2.1.2.1, cG, .inr (.inl d)))) (h1 : cG < cF) (h2 : cF ≤ 4096) :
    GnV l y_B_makeRoomForDistances ws_B_makeRoomForDistances 0 1 cF G w [.ref x] (fun w1 => ∃ G1 : Nat, w G1 = none ∧ w1 G1 = some (.inl (G.2.1.2.1, cF, .inr (.inl (fun _ => 0)))) ∧ w1 x = some (.inr (2, [.ref L, .ref F, .int n, .ref G1])) ∧ Kp w w1 [x]) := by
  refine met_ent (by decide +kernel) (Nat.le_of_ble_eq_true rfl) (fun p e s m below meth c ls C0 hr hin hH hl => ?_)
  have hx := C0.1
  have hb := C0.2.1
  have hS : va_S (gA G) s.heap s.heap [] := va_S.rf
  have hA : ∀ q : Nat, s.heap.size ≤ q → gA G q := fun q h => Nat.le_trans C0.ev.2.2.2.2.2.2.2.2.2.2.2.2 h
  have hl : lv_has ls 1 [(0, .ref x)] := hl
  refine lv_aload_n hx hb d_B_makeRoomForDistances_0 rfl (lv_at hl 0 rfl) ?_
  refine gf_B_24 C0 hH hB rfl d_B_makeRoomForDistances_1 ?_
  refine hd_alen hx hb C0.hK hH 1 hG rfl (v := nI cG) rfl d_B_makeRoomForDistances_4 ?_
  refine lv_aload_n hx hb d_B_makeRoomForDistances_5 rfl (lv_at hl 0 rfl) ?_
  refine gf_B_16 C0 hH hB rfl d_B_makeRoomForDistances_6 ?_
  refine hd_alen hx hb C0.hK hH 0 hF rfl (v := nI cF) rfl d_B_makeRoomForDistances_9 ?_
  refine lv_icmp_ge (tgt := 24) hx hb d_B_makeRoomForDistances_10 (by decide) (fun c_10 => ?_) (fun c_10 => ?_)
  · exact absurd c_10 (Int32.not_le.mpr (nI_lt h1 (by omega)))
  · refine lv_aload_n hx hb d_B_makeRoomForDistances_13 rfl (lv_at hl 0 rfl) ?_
    refine lv_aload_n hx hb d_B_makeRoomForDistances_14 rfl (lv_at hl 0 rfl) ?_
    refine gf_B_16 C0 hH hB rfl d_B_makeRoomForDistances_15 ?_
    refine hd_alen hx hb C0.hK hH 0 hF rfl (v := nI cF) rfl d_B_makeRoomForDistances_18 ?_
    refine hd_newa (atype := .long) (N' := cF) (a0 := (cF, .inr (.inl (fun _ => 0)))) hx hb (C0.2.2.2.2.1 _ mw_73) rfl (by intro C h; cases h) C0.hK 1 rfl hH hS hA (fun _ => rfl) (nI_pos (by omega)) (nI_clamp (by omega)) (by show _ * 8 ≤ _; omega) (by show _ ≤ 1; omega) (by show _ ≤ cF; omega) d_B_makeRoomForDistances_19 (fun q19 H hnq19 hH hS => ?_)
    obtain ⟨w1, ew1⟩ : ∃ z : World, z = va_up w q19 (some (.inl (G.2.1.2.1, cF, .inr (.inl (fun _ => 0))))) := ⟨_, rfl⟩
    have hH : Hw G w1 H := by rw [ew1]; exact hH
    have hw1_x : w1 x = some (.inr (2, [.ref L, .ref F, .int n, .ref Gd])) := by rw [ew1, va_up_ne _ _ (wnf hB hnq19)]; exact hB
    have hw1_F : w1 F = some (.inl (G.2.1.1, cF, .inl g)) := by rw [ew1, va_up_ne _ _ (wnf hF hnq19)]; exact hF
    have hw1_Gd : w1 Gd = some (.inl (G.2.1.2.1, cG, .inr (.inl d))) := by rw [ew1, va_up_ne _ _ (wnf hG hnq19)]; exact hG
    have hw1_q19 : w1 q19 = some (.inl (G.2.1.2.1, cF, .inr (.inl (fun _ => 0)))) := by rw [ew1]; exact va_up_self _ _ _
    refine pf_B_24 C0 hH hS hw1_x rfl rfl (Nat.le_of_ble_eq_true rfl) d_B_makeRoomForDistances_21 (fun H locs hH hS => ?_)
    obtain ⟨w2, ew2⟩ : ∃ z : World, z = va_up w1 x (some (.inr (2, [.ref L, .ref F, .int n, .ref q19]))) := ⟨_, rfl⟩
    have hH : Hw G w2 H := by rw [ew2]; exact hH
    have hw2_F : w2 F = some (.inl (G.2.1.1, cF, .inl g)) := by rw [ew2, va_up_ne _ _ (wne hw1_F hw1_x (by simp))]; exact hw1_F
    have hw2_Gd : w2 Gd = some (.inl (G.2.1.2.1, cG, .inr (.inl d))) := by rw [ew2, va_up_ne _ _ (wne hw1_Gd hw1_x (by simp))]; exact hw1_Gd
    have hw2_q19 : w2 q19 = some (.inl (G.2.1.2.1, cF, .inr (.inl (fun _ => 0)))) := by rw [ew2, va_up_ne _ _ ((wnf hB hnq19).symm)]; exact hw1_q19
    have hw2_x : w2 x = some (.inr (2, [.ref L, .ref F, .int n, .ref q19])) := by rw [ew2]; exact va_up_self _ _ _
    refine W.widen (k := 1) (n := cF) (by omega) (by omega) ?_
    exact W.vret hx hb hr (fun t ht hW => ⟨⟨w2, rfl, ⟨q19, hnq19, hw2_q19, hw2_x, by rw [ew2, ew1]; exact (Kp.up (Or.inr hnq19)).trans (Kp.up (S := [x]) (Or.inl (by simp))) (by intro b hb; exact Or.inl hb)⟩, Wo.at C0.ev hH hS ht hW⟩, hS.F ht⟩) hS.2.2 d_B_makeRoomForDistances_24 (hlocks := C0.2.2.2.2.2.2)
end
section
/-! constructors; the list's own writes -/
section E0
variable {p : Program} {l : Launch} {e : Env} {R : Room} {s : State} {m : MethodId} {args : Array Value} {below : List Frame} {meth : Method} {c : Code} {H : Heap} {locs : List Loc} {cells slots : Nat} {Q : State → Prop}
variable {G : Gl} {cc : ByteArray} {nL pc : Nat} {own : String} {ls : Array Slot} {rest : List Value}
/-- the empty array that a new list has -/
theorem e0_len (C0 : Cx G p s m args c cc nL own meth) (hS : va_S (gA G) s.heap H locs) (hdg : decode cc pc = .ok (.arraylength, 1)) (kk : W p l e R s m args below meth c H locs cells slots Q (F0 m (pc + 1) ls (.int (nI 0) :: rest))) : W p l e R s m args below meth c H locs cells slots Q (F0 m pc ls (.ref (ge0 G) :: rest)) := by
  obtain ⟨cell, h1, h2, h3, h4, h5, h6, h7⟩ := C0.ev.2.2.1
  exact W.alen C0.1 C0.2.1 (by rw [hS.2.1 _ (Array.getElem?_eq_some_iff.mp h1).1 h7]; exact h1) h2 h5 rfl rfl hdg kk
end E0

set_option maxHeartbeats 4000000 in
set_option maxRecDepth 100000 in
theorem k_AC_init (l : Launch) (G : Gl) (w : World) (q : Nat) :
    PuM l y_AC_init ws_AC_init 1 G w [.ref q] none := by
  refine met_ent (by decide +kernel) (Nat.le_of_ble_eq_true rfl) (fun p e s m below meth c ls C0 hr hin hH hl => ?_)
  have hx := C0.1
  have hb := C0.2.1
  have hS : va_S (gA G) s.heap s.heap [] := va_S.rf
  have hl : lv_has ls 1 [(0, .ref q)] := hl
  refine lv_aload_n hx hb d_AC_init_0 rfl (lv_at hl 0 rfl) ?_
  refine W.objInit hx hb C0.2.2.2.1 (C0.2.2.2.2.1 _ mw_44) (C0.2.2.2.2.1 _ mw_31) (C0.2.2.2.2.1 _ mw_32) rfl (hl.1.trans C0.2.2.1.symm) rfl d_AC_init_1 (Nat.le_of_ble_eq_true rfl) (Nat.le_of_ble_eq_true rfl) ?_
  refine W.eq (g2 := F0 m 4 ls []) rfl ?_
  exact W.vret hx hb hr (fun t ht _ => ⟨rfl, ht⟩) (fun _ h => by cases h) d_AC_init_4 (hlocks := C0.2.2.2.2.2.2)

set_option maxHeartbeats 4000000 in
set_option maxRecDepth 100000 in
theorem k_AL_init (l : Launch) (G : Gl) (w : World) {L : Nat} {a b c9 : Value} (hL : w L = some (.inr (0, [a, b, c9]))) :
    GnV l y_AL_init ws_AL_init 2 0 0 G w [.ref L] (fun w1 => w1 = va_up w L (some (.inr (0, [.int 0, b, c9])))) := by
  refine met_ent (by decide +kernel) (Nat.le_of_ble_eq_true rfl) (fun p e s m below meth c ls C0 hr hin hH hl => ?_)
  have hx := C0.1
  have hb := C0.2.1
  have hS : va_S (gA G) s.heap s.heap [] := va_S.rf
  have hA : ∀ q : Nat, s.heap.size ≤ q → gA G q := fun q h => Nat.le_trans C0.ev.2.2.2.2.2.2.2.2.2.2.2.2 h
  have hl : lv_has ls 1 [(0, .ref L)] := hl
  refine lv_aload_n hx hb d_AL_init_0 rfl (lv_at hl 0 rfl) ?_
  refine pu_n (runI C0 (k_AC_init l G w L) (cs_AL_1 C0 ⟨(Nat.le_of_ble_eq_true rfl), (Nat.le_of_ble_eq_true rfl)⟩) hH hS rfl hl.1 rfl (lv_room (Nat.le_of_ble_eq_true rfl)) d_AL_init_1 ⟨Nat.zero_le _, Nat.zero_le _⟩) ?_
  refine lv_aload_n hx hb d_AL_init_4 rfl (lv_at hl 0 rfl) ?_
  refine lv_iconst (v := 0) hx hb d_AL_init_5 (by decide) ?_
  refine pf_AL_7 C0 hH hS hL rfl rfl (Nat.le_of_ble_eq_true rfl) d_AL_init_6 (fun H locs hH hS => ?_)
  obtain ⟨w1, ew1⟩ : ∃ z : World, z = va_up w L (some (.inr (0, [.int 0, b, c9]))) := ⟨_, rfl⟩
  have hH : Hw G w1 H := by rw [ew1]; exact hH
  have hw1_L : w1 L = some (.inr (0, [.int 0, b, c9])) := by rw [ew1]; exact va_up_self _ _ _
  refine W.widen (k := 0) (n := 0) (by omega) (by omega) ?_
  exact W.vret hx hb hr (fun t ht hW => ⟨⟨w1, rfl, ew1, Wo.at C0.ev hH hS ht hW⟩, hS.F ht⟩) hS.2.2 d_AL_init_9 (hlocks := C0.2.2.2.2.2.2)

set_option maxHeartbeats 4000000 in
set_option maxRecDepth 100000 in
theorem k_A_init (l : Launch) (G : Gl) (w : World) {L : Nat} {a b c9 : Value} (hL : w L = some (.inr (0, [a, b, c9]))) :
    GnV l y_A_init ws_A_init 3 0 0 G w [.ref L] (fun w1 => w1 = va_up w L (some (.inr (0, [.int 0, .ref (ge0 G), c9])))) := by
  refine met_ent (by decide +kernel) (Nat.le_of_ble_eq_true rfl) (fun p e s m below meth c ls C0 hr hin hH hl => ?_)
  have hx := C0.1
  have hb := C0.2.1
  have hS : va_S (gA G) s.heap s.heap [] := va_S.rf
  have hA : ∀ q : Nat, s.heap.size ≤ q → gA G q := fun q h => Nat.le_trans C0.ev.2.2.2.2.2.2.2.2.2.2.2.2 h
  have hl : lv_has ls 1 [(0, .ref L)] := hl
  refine lv_aload_n hx hb d_A_init_0 rfl (lv_at hl 0 rfl) ?_
  refine gn_v (runI C0 (k_AL_init l G w hL) (cs_A_1 C0 ⟨Nat.le_of_ble_eq_true rfl, Nat.le_of_ble_eq_true rfl⟩) hH hS rfl hl.1 rfl (lv_room (Nat.le_of_ble_eq_true rfl)) d_A_init_1 ⟨by show _ ≤ 0; omega, by show _ ≤ 0; omega⟩) hS (fun w1 H locs hp1 hH hS => ?_)
  have ew1 := hp1
  have hw1_L : w1 L = some (.inr (0, [.int 0, b, c9])) := by rw [ew1]; exact va_up_self _ _ _
  refine lv_aload_n hx hb d_A_init_4 rfl (lv_at hl 0 rfl) ?_
  refine va_gets hx hb C0.ev.2.1 hS C0.2.2.2.1 (C0.2.2.2.2.1 _ mw_45) (fun _ h => h) d_A_init_5 ?_
  refine pf_A_9 C0 hH hS hw1_L rfl rfl (Nat.le_of_ble_eq_true rfl) d_A_init_8 (fun H locs hH hS => ?_)
  obtain ⟨w2, ew2⟩ : ∃ z : World, z = va_up w1 L (some (.inr (0, [.int 0, .ref (ge0 G), c9]))) := ⟨_, rfl⟩
  have hH : Hw G w2 H := by rw [ew2]; exact hH
  have hw2_L : w2 L = some (.inr (0, [.int 0, .ref (ge0 G), c9])) := by rw [ew2]; exact va_up_self _ _ _
  refine W.widen (k := 0) (n := 0) (by omega) (by omega) ?_
  exact W.vret hx hb hr (fun t ht hW => ⟨⟨w2, rfl, by rw [ew2, ew1, bx_uu], Wo.at C0.ev hH hS ht hW⟩, hS.F ht⟩) hS.2.2 d_A_init_11 (hlocks := C0.2.2.2.2.2.2)

set_option maxHeartbeats 4000000 in
set_option maxRecDepth 100000 in
theorem k_X_init (l : Launch) (G : Gl) (w : World) {q : Nat} {a b c9 d e9 : Value} (n lx ly hx1 hy1 : Int32) (hq : w q = some (.inr (1, [a, b, c9, d, e9]))) :
    GnV l y_X_init ws_X_init 1 0 0 G w [.ref q, .int n, .int lx, .int ly, .int hx1, .int hy1] (fun w1 => w1 = va_up w q (some (.inr (1, bxf (n, lx, ly, hx1, hy1))))) := by
  refine met_ent (by decide +kernel) (Nat.le_of_ble_eq_true rfl) (fun p e s m below meth c ls C0 hr hin hH hl => ?_)
  have hx := C0.1
  have hb := C0.2.1
  have hS : va_S (gA G) s.heap s.heap [] := va_S.rf
  have hA : ∀ q : Nat, s.heap.size ≤ q → gA G q := fun q h => Nat.le_trans C0.ev.2.2.2.2.2.2.2.2.2.2.2.2 h
  have hl : lv_has ls 6 [(0, .ref q), (1, .int n), (2, .int lx), (3, .int ly), (4, .int hx1), (5, .int hy1)] := hl
  refine lv_aload_n hx hb d_X_init_0 rfl (lv_at hl 0 rfl) ?_
  refine W.objInit hx hb C0.2.2.2.1 (C0.2.2.2.2.1 _ mw_250) (C0.2.2.2.2.1 _ mw_31) (C0.2.2.2.2.1 _ mw_32) rfl (hl.1.trans C0.2.2.1.symm) rfl d_X_init_1 (Nat.le_of_ble_eq_true rfl) (Nat.le_of_ble_eq_true rfl) ?_
  refine W.eq (g2 := F0 m 4 ls []) rfl ?_
  refine lv_aload_n hx hb d_X_init_4 rfl (lv_at hl 0 rfl) ?_
  refine lv_iload_n hx hb d_X_init_5 rfl (lv_at hl 1 rfl) ?_
  refine pf_X_9 C0 (hin rfl) hH hS hq rfl rfl (Nat.le_of_ble_eq_true rfl) d_X_init_6 (fun H locs hH hS => ?_)
  obtain ⟨w1, ew1⟩ : ∃ z : World, z = va_up w q (some (.inr (1, [.int n, b, c9, d, e9]))) := ⟨_, rfl⟩
  have hH : Hw G w1 H := by rw [ew1]; exact hH
  have hw1_q : w1 q = some (.inr (1, [.int n, b, c9, d, e9])) := by rw [ew1]; exact va_up_self _ _ _
  refine lv_aload_n hx hb d_X_init_9 rfl (lv_at hl 0 rfl) ?_
  refine lv_iload_n hx hb d_X_init_10 rfl (lv_at hl 2 rfl) ?_
  refine pf_X_15 C0 (hin rfl) hH hS hw1_q rfl rfl (Nat.le_of_ble_eq_true rfl) d_X_init_11 (fun H locs hH hS => ?_)
  obtain ⟨w2, ew2⟩ : ∃ z : World, z = va_up w1 q (some (.inr (1, [.int n, .int lx, c9, d, e9]))) := ⟨_, rfl⟩
  have hH : Hw G w2 H := by rw [ew2]; exact hH
  have hw2_q : w2 q = some (.inr (1, [.int n, .int lx, c9, d, e9])) := by rw [ew2]; exact va_up_self _ _ _
  refine lv_aload_n hx hb d_X_init_14 rfl (lv_at hl 0 rfl) ?_
  refine lv_iload_n hx hb d_X_init_15 rfl (lv_at hl 3 rfl) ?_
  refine pf_X_18 C0 (hin rfl) hH hS hw2_q rfl rfl (Nat.le_of_ble_eq_true rfl) d_X_init_16 (fun H locs hH hS => ?_)
  obtain ⟨w3, ew3⟩ : ∃ z : World, z = va_up w2 q (some (.inr (1, [.int n, .int lx, .int ly, d, e9]))) := ⟨_, rfl⟩
  have hH : Hw G w3 H := by rw [ew3]; exact hH
  have hw3_q : w3 q = some (.inr (1, [.int n, .int lx, .int ly, d, e9])) := by rw [ew3]; exact va_up_self _ _ _
  refine lv_aload_n hx hb d_X_init_19 rfl (lv_at hl 0 rfl) ?_
  refine lv_iload hx hb d_X_init_20 (lv_at hl 4 rfl) ?_
  refine pf_X_21 C0 (hin rfl) hH hS hw3_q rfl rfl (Nat.le_of_ble_eq_true rfl) d_X_init_22 (fun H locs hH hS => ?_)
  obtain ⟨w4, ew4⟩ : ∃ z : World, z = va_up w3 q (some (.inr (1, [.int n, .int lx, .int ly, .int hx1, e9]))) := ⟨_, rfl⟩
  have hH : Hw G w4 H := by rw [ew4]; exact hH
  have hw4_q : w4 q = some (.inr (1, [.int n, .int lx, .int ly, .int hx1, e9])) := by rw [ew4]; exact va_up_self _ _ _
  refine lv_aload_n hx hb d_X_init_25 rfl (lv_at hl 0 rfl) ?_
  refine lv_iload hx hb d_X_init_26 (lv_at hl 5 rfl) ?_
  refine pf_X_24 C0 (hin rfl) hH hS hw4_q rfl rfl (Nat.le_of_ble_eq_true rfl) d_X_init_28 (fun H locs hH hS => ?_)
  obtain ⟨w5, ew5⟩ : ∃ z : World, z = va_up w4 q (some (.inr (1, [.int n, .int lx, .int ly, .int hx1, .int hy1]))) := ⟨_, rfl⟩
  have hH : Hw G w5 H := by rw [ew5]; exact hH
  have hw5_q : w5 q = some (.inr (1, [.int n, .int lx, .int ly, .int hx1, .int hy1])) := by rw [ew5]; exact va_up_self _ _ _
  refine W.widen (k := 0) (n := 0) (by omega) (by omega) ?_
  exact W.vret hx hb hr (fun t ht hW => ⟨⟨w5, rfl, by rw [ew5, ew4, ew3, ew2, ew1, bx_uu, bx_uu, bx_uu, bx_uu], Wo.at C0.ev hH hS ht hW⟩, hS.F ht⟩) hS.2.2 d_X_init_31 (hlocks := C0.2.2.2.2.2.2)

/-- a new drawer -/
def NewQ (G : Gl) (w w1 : World) (x : Nat) : Prop := ∃ L F Gd : Nat, w L = none ∧ w F = none ∧ w Gd = none ∧ L ≠ F ∧ L ≠ Gd ∧ F ≠ Gd ∧ w1 x = some (.inr (2, [.ref L, .ref F, .int (nI 0), .ref Gd])) ∧ w1 L = some (.inr (0, [.int 0, .ref (ge0 G), .int (nI 0)])) ∧ w1 F = some (.inl (G.2.1.1, 16, .inl (fun _ => 0))) ∧ w1 Gd = some (.inl (G.2.1.2.1, 16, .inr (.inl (fun _ => 0)))) ∧ Kp w w1 [x]
theorem up_none {w : World} {a b : Nat} {e : va_E} (h : va_up w a (some e) b = none) : w b = none := by
  by_cases q : b = a
  · subst q; rw [va_up_self] at h; cases h
  · rw [va_up_ne _ _ q] at h; exact h
theorem Kp.ups {w w1 : World} {a : Nat} {e : va_E} {S : List Nat} (h : Kp w w1 S) (ha : a ∈ S ∨ w a = none) : Kp w (va_up w1 a (some e)) S := h.trans (Kp.up (S := [a]) (Or.inl (List.mem_cons_self ..))) (fun b hb => by
  have : b = a := List.mem_singleton.mp hb
  rw [this]; exact ha)

set_option maxHeartbeats 4000000 in
set_option maxRecDepth 100000 in
theorem k_B_init (l : Launch) (G : Gl) (w : World) {x : Nat} (hB : w x = some (.inr (2, [.null, .null, .int 0, .null]))) :
    GnV l y_B_init ws_B_init 4 3 35 G w [.ref x] (fun w1 => NewQ G w w1 x) := by
  refine met_ent (by decide +kernel) (Nat.le_of_ble_eq_true rfl) (fun p e s m below meth c ls C0 hr hin hH hl => ?_)
  have hx := C0.1
  have hb := C0.2.1
  have hS : va_S (gA G) s.heap s.heap [] := va_S.rf
  have hA : ∀ q : Nat, s.heap.size ≤ q → gA G q := fun q h => Nat.le_trans C0.ev.2.2.2.2.2.2.2.2.2.2.2.2 h
  have hl : lv_has ls 1 [(0, .ref x)] := hl
  refine lv_aload_n hx hb d_B_init_0 rfl (lv_at hl 0 rfl) ?_
  refine W.objInit hx hb C0.2.2.2.1 (C0.2.2.2.2.1 _ mw_30) (C0.2.2.2.2.1 _ mw_31) (C0.2.2.2.2.1 _ mw_32) rfl (hl.1.trans C0.2.2.1.symm) rfl d_B_init_1 (Nat.le_of_ble_eq_true rfl) (Nat.le_of_ble_eq_true rfl) ?_
  refine W.eq (g2 := F0 m 4 ls []) rfl ?_
  refine lv_aload_n hx hb d_B_init_4 rfl (lv_at hl 0 rfl) ?_
  refine hd_new (ci := 0) (fs := [.int 0, .null, .int 0]) hx hb C0.2.2.2.2.1 in_A tyA tyA_ok C0.2.2.2.1 (C0.2.2.2.2.1 _ mw_33) (C0.2.2.2.2.1 _ mw_34) (C0.2.2.2.2.1 _ mw_4) C0.hK hH hS hA rfl (fun j hj => by rcases (show j = 0 ∨ j = 1 ∨ j = 2 by omega) with rfl | rfl | rfl <;> rfl) (by show _ ≤ 3; omega) (by show _ ≤ 35; omega) d_B_init_5 (fun q5 H hnq5 hH hS => ?_)
  obtain ⟨w1, ew1⟩ : ∃ z : World, z = va_up w q5 (some (.inr (0, [.int 0, .null, .int 0]))) := ⟨_, rfl⟩
  have hH : Hw G w1 H := by rw [ew1]; exact hH
  have hw1_x : w1 x = some (.inr (2, [.null, .null, .int 0, .null])) := by rw [ew1, va_up_ne _ _ (wnf hB hnq5)]; exact hB
  have hw1_q5 : w1 q5 = some (.inr (0, [.int 0, .null, .int 0])) := by rw [ew1]; exact va_up_self _ _ _
  refine lv_dup hx hb d_B_init_8 rfl ?_
  refine gn_v (runI C0 (k_A_init l G w1 hw1_q5) (cs_B_9 C0 ⟨Nat.le_of_ble_eq_true rfl, Nat.le_of_ble_eq_true rfl⟩) hH hS rfl hl.1 rfl (lv_room (Nat.le_of_ble_eq_true rfl)) d_B_init_9 ⟨by show _ ≤ 3; omega, by show _ ≤ 35; omega⟩) hS (fun w2 H locs hp2 hH hS => ?_)
  have ew2 := hp2
  have hw2_q5 : w2 q5 = some (.inr (0, [.int 0, .ref (ge0 G), .int 0])) := by rw [ew2]; exact va_up_self _ _ _
  have hw2_x : w2 x = some (.inr (2, [.null, .null, .int 0, .null])) := by rw [ew2, va_up_ne _ _ (wne hw1_x hw1_q5 (by simp))]; exact hw1_x
  refine pf_B_10 C0 (hin rfl) hH hS hw2_x rfl rfl (Nat.le_of_ble_eq_true rfl) d_B_init_12 (fun H locs hH hS => ?_)
  obtain ⟨w3, ew3⟩ : ∃ z : World, z = va_up w2 x (some (.inr (2, [.ref q5, .null, .int 0, .null]))) := ⟨_, rfl⟩
  have hH : Hw G w3 H := by rw [ew3]; exact hH
  have hw3_q5 : w3 q5 = some (.inr (0, [.int 0, .ref (ge0 G), .int 0])) := by rw [ew3, va_up_ne _ _ ((wnf hB hnq5).symm)]; exact hw2_q5
  have hw3_x : w3 x = some (.inr (2, [.ref q5, .null, .int 0, .null])) := by rw [ew3]; exact va_up_self _ _ _
  refine lv_aload_n hx hb d_B_init_15 rfl (lv_at hl 0 rfl) ?_
  refine lv_bipush (v := 16) hx hb d_B_init_16 (by decide) ?_
  refine hd_newa (atype := .int) (N' := 16) (a0 := (16, .inl (fun _ => 0))) hx hb (C0.2.2.2.2.1 _ mw_72) rfl (by intro C h; cases h) C0.hK 0 rfl hH hS hA (fun _ => rfl) (by decide) (by decide) (by show _ * 4 ≤ _; omega) (by show _ ≤ 3; omega) (by show _ ≤ 35; omega) d_B_init_18 (fun q18 H hnq18 hH hS => ?_)
  obtain ⟨w4, ew4⟩ : ∃ z : World, z = va_up w3 q18 (some (.inl (G.2.1.1, 16, .inl (fun _ => 0)))) := ⟨_, rfl⟩
  have hH : Hw G w4 H := by rw [ew4]; exact hH
  have hw4_q5 : w4 q5 = some (.inr (0, [.int 0, .ref (ge0 G), .int 0])) := by rw [ew4, va_up_ne _ _ (wnf hw3_q5 hnq18)]; exact hw3_q5
  have hw4_x : w4 x = some (.inr (2, [.ref q5, .null, .int 0, .null])) := by rw [ew4, va_up_ne _ _ (wnf hw3_x hnq18)]; exact hw3_x
  have hw4_q18 : w4 q18 = some (.inl (G.2.1.1, 16, .inl (fun _ => 0))) := by rw [ew4]; exact va_up_self _ _ _
  refine pf_B_16 C0 hH hS hw4_x rfl rfl (Nat.le_of_ble_eq_true rfl) d_B_init_20 (fun H locs hH hS => ?_)
  obtain ⟨w5, ew5⟩ : ∃ z : World, z = va_up w4 x (some (.inr (2, [.ref q5, .ref q18, .int 0, .null]))) := ⟨_, rfl⟩
  have hH : Hw G w5 H := by rw [ew5]; exact hH
  have hw5_q5 : w5 q5 = some (.inr (0, [.int 0, .ref (ge0 G), .int 0])) := by rw [ew5, va_up_ne _ _ ((wnf hB hnq5).symm)]; exact hw4_q5
  have hw5_q18 : w5 q18 = some (.inl (G.2.1.1, 16, .inl (fun _ => 0))) := by rw [ew5, va_up_ne _ _ ((wnf hw3_x hnq18).symm)]; exact hw4_q18
  have hw5_x : w5 x = some (.inr (2, [.ref q5, .ref q18, .int 0, .null])) := by rw [ew5]; exact va_up_self _ _ _
  refine lv_aload_n hx hb d_B_init_23 rfl (lv_at hl 0 rfl) ?_
  refine lv_iconst (v := 0) hx hb d_B_init_24 (by decide) ?_
  refine pf_B_20 C0 hH hS hw5_x rfl rfl (Nat.le_of_ble_eq_true rfl) d_B_init_25 (fun H locs hH hS => ?_)
  obtain ⟨w6, ew6⟩ : ∃ z : World, z = va_up w5 x (some (.inr (2, [.ref q5, .ref q18, .int 0, .null]))) := ⟨_, rfl⟩
  have hH : Hw G w6 H := by rw [ew6]; exact hH
  have hw6_q5 : w6 q5 = some (.inr (0, [.int 0, .ref (ge0 G), .int 0])) := by rw [ew6, va_up_ne _ _ ((wnf hB hnq5).symm)]; exact hw5_q5
  have hw6_q18 : w6 q18 = some (.inl (G.2.1.1, 16, .inl (fun _ => 0))) := by rw [ew6, va_up_ne _ _ ((wnf hw3_x hnq18).symm)]; exact hw5_q18
  have hw6_x : w6 x = some (.inr (2, [.ref q5, .ref q18, .int 0, .null])) := by rw [ew6]; exact va_up_self _ _ _
  refine lv_aload_n hx hb d_B_init_28 rfl (lv_at hl 0 rfl) ?_
  refine lv_bipush (v := 16) hx hb d_B_init_29 (by decide) ?_
  refine hd_newa (atype := .long) (N' := 16) (a0 := (16, .inr (.inl (fun _ => 0)))) hx hb (C0.2.2.2.2.1 _ mw_73) rfl (by intro C h; cases h) C0.hK 1 rfl hH hS hA (fun _ => rfl) (by decide) (by decide) (by show _ * 8 ≤ _; omega) (by show _ ≤ 3; omega) (by show _ ≤ 35; omega) d_B_init_31 (fun q31 H hnq31 hH hS => ?_)
  obtain ⟨w7, ew7⟩ : ∃ z : World, z = va_up w6 q31 (some (.inl (G.2.1.2.1, 16, .inr (.inl (fun _ => 0))))) := ⟨_, rfl⟩
  have hH : Hw G w7 H := by rw [ew7]; exact hH
  have hw7_q5 : w7 q5 = some (.inr (0, [.int 0, .ref (ge0 G), .int 0])) := by rw [ew7, va_up_ne _ _ (wnf hw6_q5 hnq31)]; exact hw6_q5
  have hw7_x : w7 x = some (.inr (2, [.ref q5, .ref q18, .int 0, .null])) := by rw [ew7, va_up_ne _ _ (wnf hw6_x hnq31)]; exact hw6_x
  have hw7_q18 : w7 q18 = some (.inl (G.2.1.1, 16, .inl (fun _ => 0))) := by rw [ew7, va_up_ne _ _ (wnf hw6_q18 hnq31)]; exact hw6_q18
  have hw7_q31 : w7 q31 = some (.inl (G.2.1.2.1, 16, .inr (.inl (fun _ => 0)))) := by rw [ew7]; exact va_up_self _ _ _
  refine pf_B_24 C0 hH hS hw7_x rfl rfl (Nat.le_of_ble_eq_true rfl) d_B_init_33 (fun H locs hH hS => ?_)
  obtain ⟨w8, ew8⟩ : ∃ z : World, z = va_up w7 x (some (.inr (2, [.ref q5, .ref q18, .int 0, .ref q31]))) := ⟨_, rfl⟩
  have hH : Hw G w8 H := by rw [ew8]; exact hH
  have hw8_q5 : w8 q5 = some (.inr (0, [.int 0, .ref (ge0 G), .int 0])) := by rw [ew8, va_up_ne _ _ ((wnf hB hnq5).symm)]; exact hw7_q5
  have hw8_q18 : w8 q18 = some (.inl (G.2.1.1, 16, .inl (fun _ => 0))) := by rw [ew8, va_up_ne _ _ ((wnf hw3_x hnq18).symm)]; exact hw7_q18
  have hw8_q31 : w8 q31 = some (.inl (G.2.1.2.1, 16, .inr (.inl (fun _ => 0)))) := by rw [ew8, va_up_ne _ _ ((wnf hw6_x hnq31).symm)]; exact hw7_q31
  have hw8_x : w8 x = some (.inr (2, [.ref q5, .ref q18, .int 0, .ref q31])) := by rw [ew8]; exact va_up_self _ _ _
  have hf18 : w q18 = none := by have h := hnq18; rw [ew3] at h; have h := up_none h; rw [ew2] at h; have h := up_none h; rw [ew1] at h; exact up_none h
  have hf31 : w q31 = none := by have h := hnq31; rw [ew6] at h; have h := up_none h; rw [ew5] at h; have h := up_none h; rw [ew4] at h; have h := up_none h; rw [ew3] at h; have h := up_none h; rw [ew2] at h; have h := up_none h; rw [ew1] at h; exact up_none h
  refine W.widen (k := 3) (n := 35) (by omega) (by omega) ?_
  exact W.vret hx hb hr (fun t ht hW => ⟨⟨w8, rfl, ⟨q5, q18, q31, hnq5, hf18, hf31, wne hw8_q5 hw8_q18 (by simp), wne hw8_q5 hw8_q31 (by simp), wne hw8_q18 hw8_q31 (by simp), hw8_x, hw8_q5, hw8_q18, hw8_q31, by rw [ew8, ew7, ew6, ew5, ew4, ew3, ew2, ew1]; exact (((((((Kp.up (Or.inr hnq5)).ups (Or.inr hnq5)).ups (Or.inl (List.mem_cons_self ..))).ups (Or.inr hf18)).ups (Or.inl (List.mem_cons_self ..))).ups (Or.inl (List.mem_cons_self ..))).ups (Or.inr hf31)).ups (Or.inl (List.mem_cons_self ..))⟩, Wo.at C0.ev hH hS ht hW⟩, hS.F ht⟩) hS.2.2 d_B_init_36 (hlocks := C0.2.2.2.2.2.2)
end
section
/-! the list's own writes: set, add, remove, clear -/
abbrev ob (N : Nat) (f : Nat → Option Nat) : Nat × (Nat → Option Nat) := (N, f)

set_option maxHeartbeats 4000000 in
set_option maxRecDepth 100000 in
theorem k_A_set (l : Launch) (G : Gl) (w : World) {L E N k : Nat} {md : Int32} {f : Nat → Option Nat} (hL : w L = some (.inr (0, [.int md, .ref E, .int (nI k)]))) (hE : w E = some (.inl (G.2.1.2.2.2, N, .inr (.inr (.inr (.inr f)))))) (hk : k ≤ N) (hN : N ≤ 100000) {b : Nat} {v1 v2 v3 v4 v5 : Value} (hb9 : w b = some (.inr (1, [v1, v2, v3, v4, v5]))) {i x : Nat} (hi : i < k) (hf : f i = some x) :
    GnQ l y_A_set ws_A_set 2 0 0 G w [.ref L, .int (nI i), .ref b] (fun r w1 => r = some x ∧ w1 = va_up w E (some (.inl (G.2.1.2.2.2, N, .inr (.inr (.inr (.inr (va_up f i (some b))))))))) := by
  refine met_ent (by decide +kernel) (Nat.le_of_ble_eq_true rfl) (fun p e s m below meth c ls C0 hr hin hH hl => ?_)
  have hx := C0.1
  have hb := C0.2.1
  have hS : va_S (gA G) s.heap s.heap [] := va_S.rf
  have hA : ∀ q : Nat, s.heap.size ≤ q → gA G q := fun q h => Nat.le_trans C0.ev.2.2.2.2.2.2.2.2.2.2.2.2 h
  have hl : lv_has ls 4 [(0, .ref L), (1, .int (nI i)), (2, .ref b)] := hl
  refine lv_iload_n hx hb d_A_set_0 rfl (lv_at hl 1 rfl) ?_
  refine lv_aload_n hx hb d_A_set_1 rfl (lv_at hl 0 rfl) ?_
  refine gf_A_48 C0 hH hL rfl d_A_set_2 ?_
  refine pu_v (runS C0 (k_O_checkIndex l G w (nI_pos (by omega)) (nI_lt hi (by omega))) (cs_A_118 C0 ⟨Nat.le_of_ble_eq_true rfl, Nat.le_of_ble_eq_true rfl⟩) hH hS rfl hl.1 rfl (lv_room (Nat.le_of_ble_eq_true rfl)) d_A_set_5 ⟨by show _ ≤ 0; omega, by show _ ≤ 0; omega⟩) ?_
  refine lv_pop hx hb d_A_set_8 rfl ?_
  refine lv_aload_n hx hb d_A_set_9 rfl (lv_at hl 0 rfl) ?_
  refine lv_iload_n hx hb d_A_set_10 rfl (lv_at hl 1 rfl) ?_
  refine pu_v (runV C0 (k_A_elementData l G w hL hE (by omega) (by omega) hf) (cs_A_123 C0 ⟨Nat.le_of_ble_eq_true rfl, Nat.le_of_ble_eq_true rfl⟩) hH hS (hd_recv C0.hK hH rfl hL) rfl hl.1 rfl (lv_room (Nat.le_of_ble_eq_true rfl)) d_A_set_11 ⟨by show _ ≤ 0; omega, by show _ ≤ 0; omega⟩) ?_
  refine lv_astore_n (lv' := [(3, .ref x), (0, .ref L), (1, .int (nI i)), (2, .ref b)]) hx hb d_A_set_14 rfl hl (by decide) rfl (fun ls hl => ?_)
  refine lv_aload_n hx hb d_A_set_15 rfl (lv_at hl 1 rfl) ?_
  refine gf_A_9 C0 hH hL rfl d_A_set_16 ?_
  refine lv_iload_n hx hb d_A_set_19 rfl (lv_at hl 2 rfl) ?_
  refine lv_aload_n hx hb d_A_set_20 rfl (lv_at hl 3 rfl) ?_
  refine hd_astqO (r := ("BoxDrawer$Box", TX, 5)) hx hb C0.hK hH hS 3 1 hE rfl (C0.ev.2.2.2.2.2.2.1 (Cond.castable "BoxDrawer$Box" "java/lang/Object") (by decide +kernel)) hb9 rfl (vp_in_nI (by omega) (by omega)) d_A_set_21 (fun H locs hH hS => ?_)
  rw [nI_clamp (by omega)] at hH
  obtain ⟨w1, ew1⟩ : ∃ z : World, z = va_up w E (some (.inl (G.2.1.2.2.2, N, .inr (.inr (.inr (.inr (va_up f i (some b)))))))) := ⟨_, rfl⟩
  have hH : Hw G w1 H := by rw [ew1]; exact hH
  have hw1_L : w1 L = some (.inr (0, [.int md, .ref E, .int (nI k)])) := by rw [ew1, va_up_ne _ _ (wne hL hE (by simp))]; exact hL
  have hw1_b : w1 b = some (.inr (1, [v1, v2, v3, v4, v5])) := by rw [ew1, va_up_ne _ _ (wne hb9 hE (by simp))]; exact hb9
  have hw1_E : w1 E = some (.inl (G.2.1.2.2.2, N, .inr (.inr (.inr (.inr (va_up f i (some b))))))) := by rw [ew1]; exact va_up_self _ _ _
  refine lv_aload_n hx hb d_A_set_22 rfl (lv_at hl 0 rfl) ?_
  refine W.widen (k := 0) (n := 0) (by omega) (by omega) ?_
  exact W.aret hx hb hr (Or.inl ⟨_, rfl⟩) (Or.inr ⟨_, rfl⟩) (fun t ht hW => ⟨⟨some x, w1, rfl, ⟨rfl, ew1⟩, Wo.at C0.ev hH hS ht hW⟩, hS.F ht⟩) hS.2.2 d_A_set_23 (hlocks := C0.2.2.2.2.2.2)

set_option maxHeartbeats 4000000 in
set_option maxRecDepth 100000 in
theorem k_A_rangeCheckForAdd (l : Launch) (G : Gl) (w : World) {L E k i : Nat} {md : Int32} (hL : w L = some (.inr (0, [.int md, .ref E, .int (nI k)]))) (hi : i ≤ k) (hk : k ≤ 100000) :
    PuM l y_A_rangeCheckForAdd ws_A_rangeCheckForAdd 0 G w [.ref L, .int (nI i)] none := by
  refine met_ent (by decide +kernel) (Nat.le_of_ble_eq_true rfl) (fun p e s m below meth c ls C0 hr hin hH hl => ?_)
  have hx := C0.1
  have hb := C0.2.1
  have hS : va_S (gA G) s.heap s.heap [] := va_S.rf
  have hl : lv_has ls 2 [(0, .ref L), (1, .int (nI i))] := hl
  refine lv_iload_n hx hb d_A_rangeCheckForAdd_0 rfl (lv_at hl 1 rfl) ?_
  refine lv_aload_n hx hb d_A_rangeCheckForAdd_1 rfl (lv_at hl 0 rfl) ?_
  refine gf_A_48 C0 hH hL rfl d_A_rangeCheckForAdd_2 ?_
  refine lv_icmp_gt (tgt := 12) hx hb d_A_rangeCheckForAdd_5 (by decide) (fun c_5 => ?_) (fun c_5 => ?_)
  · exact absurd c_5 (nI_nlt hi (by omega))
  · refine lv_iload_n hx hb d_A_rangeCheckForAdd_8 rfl (lv_at hl 1 rfl) ?_
    refine lv_if_ge (tgt := 25) hx hb d_A_rangeCheckForAdd_9 (by decide) (fun c_9 => ?_) (fun c_9 => ?_)
    · exact W.vret hx hb hr (fun t ht _ => ⟨rfl, ht⟩) (fun _ h => by cases h) d_A_rangeCheckForAdd_25 (hlocks := C0.2.2.2.2.2.2)
    · exact absurd (nI_pos' (by omega)) c_9

set_option maxHeartbeats 4000000 in
set_option maxRecDepth 100000 in
theorem k_S_newLength (l : Launch) (G : Gl) (w : World) (a b c9 : Nat) (h1 : 0 < a) (ha : a ≤ 100000) (hb9 : b ≤ 100000) (hc : c9 ≤ 100000) :
    PuM l y_S_newLength ws_S_newLength 1 G w [.int (nI a), .int (nI b), .int (nI c9)] (some (.int (nI (a + max b c9)))) := by
  refine met_ent (by decide +kernel) (Nat.le_of_ble_eq_true rfl) (fun p e s m below meth c ls C0 hr hin hH hl => ?_)
  have hx := C0.1
  have hb := C0.2.1
  have hS : va_S (gA G) s.heap s.heap [] := va_S.rf
  have hA : ∀ q : Nat, s.heap.size ≤ q → gA G q := fun q h => Nat.le_trans C0.ev.2.2.2.2.2.2.2.2.2.2.2.2 h
  have hl : lv_has ls 4 [(0, .int (nI a)), (1, .int (nI b)), (2, .int (nI c9))] := hl
  refine lv_iload_n hx hb d_S_newLength_0 rfl (lv_at hl 0 rfl) ?_
  refine lv_iload_n hx hb d_S_newLength_1 rfl (lv_at hl 1 rfl) ?_
  refine lv_iload_n hx hb d_S_newLength_2 rfl (lv_at hl 2 rfl) ?_
  refine va_mmax hx hb (C0.2.2.1.trans hl.1.symm) C0.2.2.2.1 (C0.2.2.2.2.1 _ mw_347) (C0.2.2.2.2.1 _ mw_119) (C0.2.2.2.2.1 _ mw_19) (C0.2.2.2.2.1 _ mw_120) (Nat.le_of_ble_eq_true rfl) (Nat.le_of_ble_eq_true rfl) (by show _ ≤ 0; omega) (by show _ ≤ 0; omega) d_S_newLength_3 ?_
  rw [show (if (nI b) < (nI c9) then (nI c9) else (nI b)) = nI (max b c9) from max_nI (by omega) (by omega)]
  refine lv_iadd hx hb d_S_newLength_6 ?_
  rw [show ((nI a) + (nI (max b c9))) = nI (a + max b c9) from nI_add a (max b c9)]
  refine lv_istore_n (lv' := [(3, .int (nI (a + max b c9))), (0, .int (nI a)), (1, .int (nI b)), (2, .int (nI c9))]) hx hb d_S_newLength_7 rfl hl (by decide) rfl (fun ls hl => ?_)
  refine lv_iconst (v := 0) hx hb d_S_newLength_8 (by decide) ?_
  refine lv_iload_n hx hb d_S_newLength_9 rfl (lv_at hl 0 rfl) ?_
  refine lv_icmp_ge (tgt := 21) hx hb d_S_newLength_10 (by decide) (fun c_10 => ?_) (fun c_10 => ?_)
  · exact absurd c_10 (Int32.not_le.mpr (show nI 0 < nI (a + max b c9) from nI_lt (by omega) (by omega)))
  · refine lv_iload_n hx hb d_S_newLength_13 rfl (lv_at hl 0 rfl) ?_
    refine W.eq (g2 := F0 m 14 ls _) rfl (W.ldc hx hb C0.2.2.2.1 (C0.2.2.2.2.1 _ mw_348) rfl d_S_newLength_14 ?_)
    refine W.eq (g2 := F0 m 16 ls [.int 2147483639, .int (nI (a + max b c9))]) rfl ?_
    refine lv_icmp_gt (tgt := 21) hx hb d_S_newLength_16 (by decide) (fun c_16 => ?_) (fun c_16 => ?_)
    · exact absurd c_16 (show ¬ nI 2147483639 < nI (a + max b c9) from nI_nlt (by omega) (by decide))
    · refine lv_iload_n hx hb d_S_newLength_19 rfl (lv_at hl 0 rfl) ?_
      exact W.iret hx hb hr (fun t ht _ => ⟨rfl, ht⟩) (fun _ h => by cases h) d_S_newLength_20 (hlocks := C0.2.2.2.2.2.2)

set_option maxHeartbeats 4000000 in
set_option maxRecDepth 100000 in
theorem k_R_copyOf4 (l : Launch) (G : Gl) (w : World) {a N : Nat} {f : Nat → Option Nat} (c1 : Nat) (ha : w a = some (.inl (G.2.1.2.2.2, N, .inr (.inr (.inr (.inr f)))))) (hq : ∀ j : Nat, j < N → ∃ (y : Nat) (vs : List Value), f j = some y ∧ w y = some (.inr (1, vs))) (h1 : N < c1) (h2 : c1 ≤ 200000) :
    GnQ l y_R_copyOf4 ws_R_copyOf4 1 1 c1 G w [.ref a, .int (nI c1), .ref (gmi G)] (fun r w1 => ∃ q : Nat, r = some q ∧ w q = none ∧ w1 = va_up w q (some (.inl (G.2.1.2.2.2, c1, .inr (.inr (.inr (.inr (va_cpy f (fun _ => none) 0 0 N)))))))) := by
  refine met_ent (by decide +kernel) (Nat.le_of_ble_eq_true rfl) (fun p e s m below meth c ls C0 hr hin hH hl => ?_)
  have hx := C0.1
  have hb := C0.2.1
  have hS : va_S (gA G) s.heap s.heap [] := va_S.rf
  have hA : ∀ q : Nat, s.heap.size ≤ q → gA G q := fun q h => Nat.le_trans C0.ev.2.2.2.2.2.2.2.2.2.2.2.2 h
  have hl : lv_has ls 4 [(0, .ref a), (1, .int (nI c1)), (2, .ref (gmi G))] := hl
  refine lv_aload_n hx hb d_R_copyOf4_0 rfl (lv_at hl 2 rfl) ?_
  refine va_ldcM hx hb C0.2.2.2.1 (C0.2.2.2.2.1 _ mw_558) C0.ev.2.2.2.2.2.2.2.2.1 d_R_copyOf4_1 ?_
  refine lv_acmp_ne (rx := some (gmi G)) (ry := some (gmi G)) (tgt := 13) hx hb d_R_copyOf4_3 (by decide) (fun h => absurd rfl h) (fun _ => ?_)
  refine lv_iload_n hx hb d_R_copyOf4_6 rfl (lv_at hl 1 rfl) ?_
  refine hd_newq (N' := c1) hx hb C0.2.2.2.1 (C0.2.2.2.2.1 _ mw_560) C0.ev.2.2.2.2.2.2.2.1 C0.hK 3 rfl hH hS hA (nI_pos (by omega)) (nI_clamp (by omega)) (by omega) (by show _ ≤ 1; omega) (by show _ ≤ c1; omega) d_R_copyOf4_7 (fun q7 H hnq7 hH hS => ?_)
  obtain ⟨w1, ew1⟩ : ∃ z : World, z = va_up w q7 (some (.inl (G.2.1.2.2.2, c1, .inr (.inr (.inr (.inr (fun _ => none))))))) := ⟨_, rfl⟩
  have hH : Hw G w1 H := by rw [ew1]; exact hH
  have hw1_a : w1 a = some (.inl (G.2.1.2.2.2, N, .inr (.inr (.inr (.inr f))))) := by rw [ew1, va_up_ne _ _ (wnf ha hnq7)]; exact ha
  have hw1_q7 : w1 q7 = some (.inl (G.2.1.2.2.2, c1, .inr (.inr (.inr (.inr (fun _ => none)))))) := by rw [ew1]; exact va_up_self _ _ _
  have hqw1_0 : ∀ j : Nat, j < N → ∃ (y : Nat) (vs : List Value), f j = some y ∧ w1 y = some (.inr (1, vs)) := fun j hj => by obtain ⟨y, vs, g1, g2⟩ := hq j hj; exact ⟨y, vs, g1, by rw [ew1, va_up_ne _ _ (wnf g2 hnq7)]; exact g2⟩
  refine lv_goto (tgt := 24) hx hb d_R_copyOf4_10 (by decide) ?_
  refine lv_astore_n (lv' := [(3, .ref q7), (0, .ref a), (1, .int (nI c1)), (2, .ref (gmi G))]) hx hb d_R_copyOf4_24 rfl hl (by decide) rfl (fun ls hl => ?_)
  refine lv_aload_n hx hb d_R_copyOf4_25 rfl (lv_at hl 1 rfl) ?_
  refine lv_iconst (v := 0) hx hb d_R_copyOf4_26 (by decide) ?_
  refine lv_aload_n hx hb d_R_copyOf4_27 rfl (lv_at hl 0 rfl) ?_
  refine lv_iconst (v := 0) hx hb d_R_copyOf4_28 (by decide) ?_
  refine lv_aload_n hx hb d_R_copyOf4_29 rfl (lv_at hl 1 rfl) ?_
  refine hd_alen hx hb C0.hK hH 3 hw1_a rfl (v := nI N) rfl d_R_copyOf4_30 ?_
  refine lv_iload_n hx hb d_R_copyOf4_31 rfl (lv_at hl 2 rfl) ?_
  refine va_mmin hx hb (C0.2.2.1.trans hl.1.symm) C0.2.2.2.1 (C0.2.2.2.2.1 _ mw_134) (C0.2.2.2.2.1 _ mw_122) (C0.2.2.2.2.1 _ mw_19) (C0.2.2.2.2.1 _ mw_123) (Nat.le_of_ble_eq_true rfl) (Nat.le_of_ble_eq_true rfl) (by show _ ≤ 1; omega) (by show _ ≤ c1; omega) d_R_copyOf4_32 ?_
  rw [show (if (nI c1) < (nI N) then (nI c1) else (nI N)) = nI N from ((min_nI (by omega) (by omega)).trans (by rw [Nat.min_eq_left (by omega)]))]
  refine hd_copyq (r := ("BoxDrawer$Box", TX, 5)) hx hb (C0.2.2.1.trans hl.1.symm) C0.2.2.2.1 (C0.2.2.2.2.1 _ mw_135) (C0.2.2.2.2.1 _ mw_137) (C0.2.2.2.2.1 _ mw_136) (C0.2.2.2.2.1 _ mw_21) C0.hK hH hS 3 1 hw1_a hw1_q7 rfl (C0.ev.2.2.2.2.2.2.1 (Cond.castable "BoxDrawer$Box" "java/lang/Object") (by decide +kernel)) rfl (by decide) (by decide) (nI_pos (by omega)) (by rw [nI_clamp (by omega), sb_cl0]; omega) (by rw [nI_clamp (by omega), sb_cl0]; omega) (fun i hi y hy => by rw [nI_clamp (by omega)] at hi; rw [sb_cl0, Nat.zero_add] at hy; obtain ⟨y2, vs, g1, g2⟩ := hqw1_0 i hi; rw [g1] at hy; cases hy; exact ⟨vs, g2⟩) (Nat.le_of_ble_eq_true rfl) (Nat.le_of_ble_eq_true rfl) d_R_copyOf4_35 (fun H locs hH hS => ?_)
  rw [nI_clamp (by omega), sb_cl0] at hH
  obtain ⟨w2, ew2⟩ : ∃ z : World, z = va_up w1 q7 (some (.inl (G.2.1.2.2.2, c1, .inr (.inr (.inr (.inr (va_cpy f (fun _ => none) 0 0 N))))))) := ⟨_, rfl⟩
  have hH : Hw G w2 H := by rw [ew2]; exact hH
  have hw2_a : w2 a = some (.inl (G.2.1.2.2.2, N, .inr (.inr (.inr (.inr f))))) := by rw [ew2, va_up_ne _ _ (wnf ha hnq7)]; exact hw1_a
  have hw2_q7 : w2 q7 = some (.inl (G.2.1.2.2.2, c1, .inr (.inr (.inr (.inr (va_cpy f (fun _ => none) 0 0 N)))))) := by rw [ew2]; exact va_up_self _ _ _
  have hqw2_0 : ∀ j : Nat, j < N → ∃ (y : Nat) (vs : List Value), f j = some y ∧ w2 y = some (.inr (1, vs)) := fun j hj => by obtain ⟨y, vs, g1, g2⟩ := hqw1_0 j hj; exact ⟨y, vs, g1, by rw [ew2, va_up_ne _ _ (wne g2 hw1_q7 (by simp))]; exact g2⟩
  refine lv_aload_n hx hb d_R_copyOf4_38 rfl (lv_at hl 0 rfl) ?_
  refine W.widen (k := 1) (n := c1) (by omega) (by omega) ?_
  exact W.aret hx hb hr (Or.inr ⟨_, rfl⟩) (Or.inr ⟨_, rfl⟩) (fun t ht hW => ⟨⟨some q7, w2, rfl, ⟨_, rfl, hnq7, by rw [ew2, ew1, bx_uu]⟩, Wo.at C0.ev hH hS ht hW⟩, hS.F ht⟩) hS.2.2 d_R_copyOf4_39 (hlocks := C0.2.2.2.2.2.2)

set_option maxHeartbeats 4000000 in
set_option maxRecDepth 100000 in
theorem k_R_copyOf3 (l : Launch) (G : Gl) (w : World) {a N : Nat} {f : Nat → Option Nat} (c1 : Nat) (ha : w a = some (.inl (G.2.1.2.2.2, N, .inr (.inr (.inr (.inr f)))))) (hq : ∀ j : Nat, j < N → ∃ (y : Nat) (vs : List Value), f j = some y ∧ w y = some (.inr (1, vs))) (h1 : N < c1) (h2 : c1 ≤ 200000) :
    GnQ l y_R_copyOf3 ws_R_copyOf3 2 1 c1 G w [.ref a, .int (nI c1)] (fun r w1 => ∃ q : Nat, r = some q ∧ w q = none ∧ w1 = va_up w q (some (.inl (G.2.1.2.2.2, c1, .inr (.inr (.inr (.inr (va_cpy f (fun _ => none) 0 0 N)))))))) := by
  refine met_ent (by decide +kernel) (Nat.le_of_ble_eq_true rfl) (fun p e s m below meth c ls C0 hr hin hH hl => ?_)
  have hx := C0.1
  have hb := C0.2.1
  have hS : va_S (gA G) s.heap s.heap [] := va_S.rf
  have hA : ∀ q : Nat, s.heap.size ≤ q → gA G q := fun q h => Nat.le_trans C0.ev.2.2.2.2.2.2.2.2.2.2.2.2 h
  have hl : lv_has ls 2 [(0, .ref a), (1, .int (nI c1))] := hl
  refine lv_aload_n hx hb d_R_copyOf3_0 rfl (lv_at hl 0 rfl) ?_
  refine lv_iload_n hx hb d_R_copyOf3_1 rfl (lv_at hl 1 rfl) ?_
  refine lv_aload_n hx hb d_R_copyOf3_2 rfl (lv_at hl 0 rfl) ?_
  refine va_getC hx hb (C0.2.2.1.trans hl.1.symm) C0.2.2.2.1 (C0.2.2.2.2.1 _ mw_542) (va_Dc.use C0.ev.2.2.2.2.2.2.2.2.2.1) (C0.2.2.2.2.1 _ mw_826) (C0.2.2.2.2.1 _ mw_543) (C0.2.2.2.2.1 _ mw_554) C0.ev.2.2.2.2.2.2.2.2.1 ⟨_, hH.at ha, rfl, va_nmO (C0.hK.2 3 _ rfl).2 rfl⟩ (Nat.le_of_ble_eq_true rfl) (Nat.le_of_ble_eq_true rfl) d_R_copyOf3_3 ?_
  refine gn_q (runS C0 (k_R_copyOf4 l G w c1 ha hq h1 h2) (cs_R_300 C0 ⟨Nat.le_of_ble_eq_true rfl, Nat.le_of_ble_eq_true rfl⟩) hH hS rfl hl.1 rfl (lv_room (Nat.le_of_ble_eq_true rfl)) d_R_copyOf3_6 ⟨by show _ ≤ 1; omega, by show _ ≤ c1; omega⟩) hS (fun r1 w1 H locs hp1 hH hS => ?_)
  obtain ⟨q9, rfl, hnq9, ew1⟩ := hp1
  refine W.widen (k := 1) (n := c1) (by omega) (by omega) ?_
  exact W.aret hx hb hr (Or.inr ⟨_, rfl⟩) (Or.inr ⟨_, rfl⟩) (fun t ht hW => ⟨⟨some q9, w1, rfl, ⟨q9, rfl, hnq9, ew1⟩, Wo.at C0.ev hH hS ht hW⟩, hS.F ht⟩) hS.2.2 d_R_copyOf3_9 (hlocks := C0.2.2.2.2.2.2)
end
section
/-! grow, add, remove, clear -/
theorem shr1 {n : Nat} (h : n < 2 ^ 31) : nI n >>> ((1 : Int32) &&& 31) = nI (n / 2) := by
  have k := pk_shrN (n := n) h ((1 : Int32) &&& 31) 1 (by decide)
  rw [Nat.pow_one] at k
  exact k
/-- a list of k boxes gets b at i -/
def AddQ (G : Gl) (w w1 : World) (L E i k b N1 : Nat) (f : Nat → Option Nat) : Prop := ∃ (E1 : Nat) (f1 : Nat → Option Nat) (md1 : Int32), w1 L = some (.inr (0, [.int md1, .ref E1, .int (nI (k + 1))])) ∧ w1 E1 = some (.inl (G.2.1.2.2.2, N1, .inr (.inr (.inr (.inr f1))))) ∧ (∀ j : Nat, j < i → f1 j = f j) ∧ f1 i = some b ∧ (∀ j : Nat, i ≤ j → j < k → f1 (j + 1) = f j) ∧ (E1 = E ∨ w E1 = none) ∧ Kp w w1 [L, E]
theorem add_f {fa f : Nat → Option Nat} {i k b : Nat} (hi : i ≤ k) (h : ∀ j : Nat, j < k → fa j = f j) : (∀ j : Nat, j < i → va_up (va_cpy fa fa i (i + 1) (k - i)) i (some b) j = f j) ∧ va_up (va_cpy fa fa i (i + 1) (k - i)) i (some b) i = some b ∧ ∀ j : Nat, i ≤ j → j < k → va_up (va_cpy fa fa i (i + 1) (k - i)) i (some b) (j + 1) = f j := by
  refine ⟨fun j hj => ?_, va_up_self _ _ _, fun j h1 h2 => ?_⟩
  · rw [va_up_ne _ _ (by omega), pk_cpy_out (by omega)]
    exact h j (by omega)
  · rw [va_up_ne _ _ (by omega), pk_cpy_in (by omega) (by omega), show i + (j + 1 - (i + 1)) = j by omega]
    exact h j h2
def RemQ (G : Gl) (w w1 : World) (L E i k N : Nat) (f : Nat → Option Nat) : Prop := ∃ (f1 : Nat → Option Nat) (md1 : Int32), w1 L = some (.inr (0, [.int md1, .ref E, .int (nI (k - 1))])) ∧ w1 E = some (.inl (G.2.1.2.2.2, N, .inr (.inr (.inr (.inr f1))))) ∧ (∀ j : Nat, j < i → f1 j = f j) ∧ (∀ j : Nat, i ≤ j → j < k - 1 → f1 j = f (j + 1)) ∧ Kp w w1 [L, E]

set_option maxHeartbeats 4000000 in
set_option maxRecDepth 100000 in
theorem k_A_grow20 (l : Launch) (G : Gl) (w : World) {L : Nat} {md : Int32} (hL : w L = some (.inr (0, [.int md, .ref (ge0 G), .int (nI 0)])))  :
    GnQ l y_A_grow2 ws_A_grow2 3 1 10 G w [.ref L, .int (nI 1)] (fun r w1 => ∃ q : Nat, r = some q ∧ w q = none ∧ w1 = va_up (va_up w q (some (.inl (G.2.1.2.2.2, 10, .inr (.inr (.inr (.inr (fun _ => none)))))))) L (some (.inr (0, [.int md, .ref q, .int (nI 0)])))) := by
  refine met_ent (by decide +kernel) (Nat.le_of_ble_eq_true rfl) (fun p e s m below meth c ls C0 hr hin hH hl => ?_)
  have hx := C0.1
  have hb := C0.2.1
  have hS : va_S (gA G) s.heap s.heap [] := va_S.rf
  have hA : ∀ q : Nat, s.heap.size ≤ q → gA G q := fun q h => Nat.le_trans C0.ev.2.2.2.2.2.2.2.2.2.2.2.2 h
  have hl : lv_has ls 4 [(0, .ref L), (1, .int (nI 1))] := hl
  refine lv_aload_n hx hb d_A_grow2_0 rfl (lv_at hl 0 rfl) ?_
  refine gf_A_9 C0 hH hL rfl d_A_grow2_1 ?_
  refine e0_len C0 hS d_A_grow2_4 ?_
  refine lv_istore_n (lv' := [(2, .int (nI 0)), (0, .ref L), (1, .int (nI 1))]) hx hb d_A_grow2_5 rfl hl (by decide) rfl (fun ls hl => ?_)
  refine lv_iload_n hx hb d_A_grow2_6 rfl (lv_at hl 0 rfl) ?_
  refine lv_if_gt (tgt := 20) hx hb d_A_grow2_7 (by decide) (fun c_7 => ?_) (fun c_7 => ?_)
  · exact absurd c_7 (by rw [nI_0]; decide)
  · refine lv_aload_n hx hb d_A_grow2_10 rfl (lv_at hl 1 rfl) ?_
    refine gf_A_9 C0 hH hL rfl d_A_grow2_11 ?_
    refine va_gets hx hb C0.ev.2.1 hS C0.2.2.2.1 (C0.2.2.2.2.1 _ mw_45) (fun _ h => h) d_A_grow2_14 ?_
    refine lv_acmp_eq (rx := some (ge0 G)) (ry := some (ge0 G)) (tgt := 45) hx hb d_A_grow2_17 (by decide) (fun _ => ?_) (fun h => absurd rfl h)
    refine lv_aload_n hx hb d_A_grow2_45 rfl (lv_at hl 1 rfl) ?_
    refine lv_bipush (v := 10) hx hb d_A_grow2_46 (by decide) ?_
    refine lv_iload_n hx hb d_A_grow2_48 rfl (lv_at hl 2 rfl) ?_
    refine va_mmax hx hb (C0.2.2.1.trans hl.1.symm) C0.2.2.2.1 (C0.2.2.2.2.1 _ mw_561) (C0.2.2.2.2.1 _ mw_119) (C0.2.2.2.2.1 _ mw_19) (C0.2.2.2.2.1 _ mw_120) (Nat.le_of_ble_eq_true rfl) (Nat.le_of_ble_eq_true rfl) (by show _ ≤ 1; omega) (by show _ ≤ 10; omega) d_A_grow2_49 ?_
    rw [show (if 10 < (nI 1) then (nI 1) else 10) = nI 10 from (by decide)]
    refine hd_newq (N' := 10) hx hb C0.2.2.2.1 (C0.2.2.2.2.1 _ mw_562) C0.ev.2.2.2.2.2.2.2.1 C0.hK 3 rfl hH hS hA (nI_pos (by omega)) (nI_clamp (by omega)) (by omega) (by show _ ≤ 1; omega) (by show _ ≤ 10; omega) d_A_grow2_52 (fun q52 H hnq52 hH hS => ?_)
    obtain ⟨w1, ew1⟩ : ∃ z : World, z = va_up w q52 (some (.inl (G.2.1.2.2.2, 10, .inr (.inr (.inr (.inr (fun _ => none))))))) := ⟨_, rfl⟩
    have hH : Hw G w1 H := by rw [ew1]; exact hH
    have hw1_L : w1 L = some (.inr (0, [.int md, .ref (ge0 G), .int (nI 0)])) := by rw [ew1, va_up_ne _ _ (wnf hL hnq52)]; exact hL
    have hw1_q52 : w1 q52 = some (.inl (G.2.1.2.2.2, 10, .inr (.inr (.inr (.inr (fun _ => none)))))) := by rw [ew1]; exact va_up_self _ _ _
    refine lv_dup_x1 hx hb d_A_grow2_55 rfl rfl ?_
    refine pf_A_9 C0 hH hS hw1_L rfl rfl (Nat.le_of_ble_eq_true rfl) d_A_grow2_56 (fun H locs hH hS => ?_)
    obtain ⟨w2, ew2⟩ : ∃ z : World, z = va_up w1 L (some (.inr (0, [.int md, .ref q52, .int (nI 0)]))) := ⟨_, rfl⟩
    have hH : Hw G w2 H := by rw [ew2]; exact hH
    have hw2_q52 : w2 q52 = some (.inl (G.2.1.2.2.2, 10, .inr (.inr (.inr (.inr (fun _ => none)))))) := by rw [ew2, va_up_ne _ _ ((wnf hL hnq52).symm)]; exact hw1_q52
    have hw2_L : w2 L = some (.inr (0, [.int md, .ref q52, .int (nI 0)])) := by rw [ew2]; exact va_up_self _ _ _
    refine W.widen (k := 1) (n := 10) (by omega) (by omega) ?_
    exact W.aret hx hb hr (Or.inr ⟨_, rfl⟩) (Or.inr ⟨_, rfl⟩) (fun t ht hW => ⟨⟨some q52, w2, rfl, ⟨_, rfl, hnq52, by rw [ew2, ew1]⟩, Wo.at C0.ev hH hS ht hW⟩, hS.F ht⟩) hS.2.2 d_A_grow2_59 (hlocks := C0.2.2.2.2.2.2)

set_option maxHeartbeats 4000000 in
set_option maxRecDepth 100000 in
theorem k_A_grow21 (l : Launch) (G : Gl) (w : World) {L E N : Nat} {md : Int32} {f : Nat → Option Nat} (hL : w L = some (.inr (0, [.int md, .ref E, .int (nI N)]))) (hE : w E = some (.inl (G.2.1.2.2.2, N, .inr (.inr (.inr (.inr f)))))) (h0 : 0 < N) (hN : N ≤ 60000) (hq : ∀ j : Nat, j < N → ∃ (y : Nat) (vs : List Value), f j = some y ∧ w y = some (.inr (1, vs)))  :
    GnQ l y_A_grow2 ws_A_grow2 3 1 (N + max 1 (N / 2)) G w [.ref L, .int (nI (N + 1))] (fun r w1 => ∃ q : Nat, r = some q ∧ w q = none ∧ w1 = va_up (va_up w q (some (.inl (G.2.1.2.2.2, (N + max 1 (N / 2)), .inr (.inr (.inr (.inr (va_cpy f (fun _ => none) 0 0 N)))))))) L (some (.inr (0, [.int md, .ref q, .int (nI N)])))) := by
  refine met_ent (by decide +kernel) (Nat.le_of_ble_eq_true rfl) (fun p e s m below meth c ls C0 hr hin hH hl => ?_)
  have hx := C0.1
  have hb := C0.2.1
  have hS : va_S (gA G) s.heap s.heap [] := va_S.rf
  have hA : ∀ q : Nat, s.heap.size ≤ q → gA G q := fun q h => Nat.le_trans C0.ev.2.2.2.2.2.2.2.2.2.2.2.2 h
  have hl : lv_has ls 4 [(0, .ref L), (1, .int (nI (N + 1)))] := hl
  refine lv_aload_n hx hb d_A_grow2_0 rfl (lv_at hl 0 rfl) ?_
  refine gf_A_9 C0 hH hL rfl d_A_grow2_1 ?_
  refine hd_alen hx hb C0.hK hH 3 hE rfl (v := nI N) rfl d_A_grow2_4 ?_
  refine lv_istore_n (lv' := [(2, .int (nI N)), (0, .ref L), (1, .int (nI (N + 1)))]) hx hb d_A_grow2_5 rfl hl (by decide) rfl (fun ls hl => ?_)
  refine lv_iload_n hx hb d_A_grow2_6 rfl (lv_at hl 0 rfl) ?_
  refine lv_if_gt (tgt := 20) hx hb d_A_grow2_7 (by decide) (fun c_7 => ?_) (fun c_7 => ?_)
  · refine lv_iload_n hx hb d_A_grow2_20 rfl (lv_at hl 0 rfl) ?_
    refine lv_iload_n hx hb d_A_grow2_21 rfl (lv_at hl 2 rfl) ?_
    refine lv_iload_n hx hb d_A_grow2_22 rfl (lv_at hl 0 rfl) ?_
    refine lv_isub hx hb d_A_grow2_23 ?_
    rw [show ((nI (N + 1)) - (nI N)) = nI 1 from (pk_sub (by omega)).trans (by rw [Nat.add_sub_cancel_left])]
    refine lv_iload_n hx hb d_A_grow2_24 rfl (lv_at hl 0 rfl) ?_
    refine lv_iconst (v := 1) hx hb d_A_grow2_25 (by decide) ?_
    refine lv_ishr hx hb d_A_grow2_26 ?_
    rw [shr1 (by omega)]
    refine pu_v (runS C0 (k_S_newLength l G w N 1 (N / 2) h0 (by omega) (by omega) (by omega)) (cs_A_73 C0 ⟨Nat.le_of_ble_eq_true rfl, Nat.le_of_ble_eq_true rfl⟩) hH hS rfl hl.1 rfl (lv_room (Nat.le_of_ble_eq_true rfl)) d_A_grow2_27 ⟨by show _ ≤ 1; omega, by show _ ≤ (N + max 1 (N / 2)); omega⟩) ?_
    refine lv_istore_n (lv' := [(3, .int (nI (N + max 1 (N / 2)))), (2, .int (nI N)), (0, .ref L), (1, .int (nI (N + 1)))]) hx hb d_A_grow2_30 rfl hl (by decide) rfl (fun ls hl => ?_)
    refine lv_aload_n hx hb d_A_grow2_31 rfl (lv_at hl 2 rfl) ?_
    refine lv_aload_n hx hb d_A_grow2_32 rfl (lv_at hl 2 rfl) ?_
    refine gf_A_9 C0 hH hL rfl d_A_grow2_33 ?_
    refine lv_iload_n hx hb d_A_grow2_36 rfl (lv_at hl 0 rfl) ?_
    refine gn_q (runS C0 (k_R_copyOf3 l G w (N + max 1 (N / 2)) hE hq (by omega) (by omega)) (cs_A_66 C0 ⟨Nat.le_of_ble_eq_true rfl, Nat.le_of_ble_eq_true rfl⟩) hH hS rfl hl.1 rfl (lv_room (Nat.le_of_ble_eq_true rfl)) d_A_grow2_37 ⟨by show _ ≤ 1; omega, by show _ ≤ (N + max 1 (N / 2)); omega⟩) hS (fun r1 w1 H locs hp1 hH hS => ?_)
    obtain ⟨q9, rfl, hnq9, ew1⟩ := hp1
    have hw1_L : w1 L = some (.inr (0, [.int md, .ref E, .int (nI N)])) := by rw [ew1, va_up_ne _ _ (wnf hL hnq9)]; exact hL
    refine lv_dup_x1 hx hb d_A_grow2_40 rfl rfl ?_
    refine pf_A_9 C0 hH hS hw1_L rfl rfl (Nat.le_of_ble_eq_true rfl) d_A_grow2_41 (fun H locs hH hS => ?_)
    obtain ⟨w2, ew2⟩ : ∃ z : World, z = va_up w1 L (some (.inr (0, [.int md, .ref q9, .int (nI N)]))) := ⟨_, rfl⟩
    have hH : Hw G w2 H := by rw [ew2]; exact hH
    have hw2_L : w2 L = some (.inr (0, [.int md, .ref q9, .int (nI N)])) := by rw [ew2]; exact va_up_self _ _ _
    refine W.widen (k := 1) (n := (N + max 1 (N / 2))) (by omega) (by omega) ?_
    exact W.aret hx hb hr (Or.inr ⟨_, rfl⟩) (Or.inr ⟨_, rfl⟩) (fun t ht hW => ⟨⟨some q9, w2, rfl, ⟨_, rfl, hnq9, by rw [ew2, ew1]⟩, Wo.at C0.ev hH hS ht hW⟩, hS.F ht⟩) hS.2.2 d_A_grow2_44 (hlocks := C0.2.2.2.2.2.2)
  · exact absurd (show nI 0 < nI N from nI_lt h0 (by omega)) c_7

set_option maxHeartbeats 4000000 in
set_option maxRecDepth 100000 in
theorem k_A_grow0 (l : Launch) (G : Gl) (w : World) {L : Nat} {md : Int32} (hL : w L = some (.inr (0, [.int md, .ref (ge0 G), .int (nI 0)])))  :
    GnQ l y_A_grow ws_A_grow 4 1 10 G w [.ref L] (fun r w1 => ∃ q : Nat, r = some q ∧ w q = none ∧ w1 = va_up (va_up w q (some (.inl (G.2.1.2.2.2, 10, .inr (.inr (.inr (.inr (fun _ => none)))))))) L (some (.inr (0, [.int md, .ref q, .int (nI 0)])))) := by
  refine met_ent (by decide +kernel) (Nat.le_of_ble_eq_true rfl) (fun p e s m below meth c ls C0 hr hin hH hl => ?_)
  have hx := C0.1
  have hb := C0.2.1
  have hS : va_S (gA G) s.heap s.heap [] := va_S.rf
  have hA : ∀ q : Nat, s.heap.size ≤ q → gA G q := fun q h => Nat.le_trans C0.ev.2.2.2.2.2.2.2.2.2.2.2.2 h
  have hl : lv_has ls 1 [(0, .ref L)] := hl
  refine lv_aload_n hx hb d_A_grow_0 rfl (lv_at hl 0 rfl) ?_
  refine lv_aload_n hx hb d_A_grow_1 rfl (lv_at hl 0 rfl) ?_
  refine gf_A_48 C0 hH hL rfl d_A_grow_2 ?_
  refine lv_iconst (v := 1) hx hb d_A_grow_5 (by decide) ?_
  refine lv_iadd hx hb d_A_grow_6 ?_
  rw [show ((nI 0) + 1) = nI 1 from nI_1 0]
  refine gn_q (runV C0 (k_A_grow20 l G w hL) (cs_A_69 C0 ⟨Nat.le_of_ble_eq_true rfl, Nat.le_of_ble_eq_true rfl⟩) hH hS (hd_recv C0.hK hH rfl hL) rfl hl.1 rfl (lv_room (Nat.le_of_ble_eq_true rfl)) d_A_grow_7 ⟨by show _ ≤ 1; omega, by show _ ≤ 10; omega⟩) hS (fun r1 w1 H locs hp1 hH hS => ?_)
  obtain ⟨q9, rfl, hnq9, ew1⟩ := hp1
  refine W.widen (k := 1) (n := 10) (by omega) (by omega) ?_
  exact W.aret hx hb hr (Or.inr ⟨_, rfl⟩) (Or.inr ⟨_, rfl⟩) (fun t ht hW => ⟨⟨some q9, w1, rfl, ⟨q9, rfl, hnq9, ew1⟩, Wo.at C0.ev hH hS ht hW⟩, hS.F ht⟩) hS.2.2 d_A_grow_10 (hlocks := C0.2.2.2.2.2.2)

set_option maxHeartbeats 4000000 in
set_option maxRecDepth 100000 in
theorem k_A_grow1 (l : Launch) (G : Gl) (w : World) {L E N : Nat} {md : Int32} {f : Nat → Option Nat} (hL : w L = some (.inr (0, [.int md, .ref E, .int (nI N)]))) (hE : w E = some (.inl (G.2.1.2.2.2, N, .inr (.inr (.inr (.inr f)))))) (h0 : 0 < N) (hN : N ≤ 60000) (hq : ∀ j : Nat, j < N → ∃ (y : Nat) (vs : List Value), f j = some y ∧ w y = some (.inr (1, vs)))  :
    GnQ l y_A_grow ws_A_grow 4 1 (N + max 1 (N / 2)) G w [.ref L] (fun r w1 => ∃ q : Nat, r = some q ∧ w q = none ∧ w1 = va_up (va_up w q (some (.inl (G.2.1.2.2.2, (N + max 1 (N / 2)), .inr (.inr (.inr (.inr (va_cpy f (fun _ => none) 0 0 N)))))))) L (some (.inr (0, [.int md, .ref q, .int (nI N)])))) := by
  refine met_ent (by decide +kernel) (Nat.le_of_ble_eq_true rfl) (fun p e s m below meth c ls C0 hr hin hH hl => ?_)
  have hx := C0.1
  have hb := C0.2.1
  have hS : va_S (gA G) s.heap s.heap [] := va_S.rf
  have hA : ∀ q : Nat, s.heap.size ≤ q → gA G q := fun q h => Nat.le_trans C0.ev.2.2.2.2.2.2.2.2.2.2.2.2 h
  have hl : lv_has ls 1 [(0, .ref L)] := hl
  refine lv_aload_n hx hb d_A_grow_0 rfl (lv_at hl 0 rfl) ?_
  refine lv_aload_n hx hb d_A_grow_1 rfl (lv_at hl 0 rfl) ?_
  refine gf_A_48 C0 hH hL rfl d_A_grow_2 ?_
  refine lv_iconst (v := 1) hx hb d_A_grow_5 (by decide) ?_
  refine lv_iadd hx hb d_A_grow_6 ?_
  rw [show ((nI N) + 1) = nI (N + 1) from nI_1 N]
  refine gn_q (runV C0 (k_A_grow21 l G w hL hE h0 hN hq) (cs_A_69 C0 ⟨Nat.le_of_ble_eq_true rfl, Nat.le_of_ble_eq_true rfl⟩) hH hS (hd_recv C0.hK hH rfl hL) rfl hl.1 rfl (lv_room (Nat.le_of_ble_eq_true rfl)) d_A_grow_7 ⟨by show _ ≤ 1; omega, by show _ ≤ (N + max 1 (N / 2)); omega⟩) hS (fun r1 w1 H locs hp1 hH hS => ?_)
  obtain ⟨q9, rfl, hnq9, ew1⟩ := hp1
  refine W.widen (k := 1) (n := (N + max 1 (N / 2))) (by omega) (by omega) ?_
  exact W.aret hx hb hr (Or.inr ⟨_, rfl⟩) (Or.inr ⟨_, rfl⟩) (fun t ht hW => ⟨⟨some q9, w1, rfl, ⟨q9, rfl, hnq9, ew1⟩, Wo.at C0.ev hH hS ht hW⟩, hS.F ht⟩) hS.2.2 d_A_grow_10 (hlocks := C0.2.2.2.2.2.2)

set_option maxHeartbeats 4000000 in
set_option maxRecDepth 100000 in
theorem k_A_add0 (l : Launch) (G : Gl) (w : World) {L E N k : Nat} {md : Int32} {f : Nat → Option Nat} (hL : w L = some (.inr (0, [.int md, .ref E, .int (nI k)]))) (hE : w E = some (.inl (G.2.1.2.2.2, N, .inr (.inr (.inr (.inr f)))))) (hk : k ≤ N) (hN : N ≤ 100000) {b : Nat} {v1 v2 v3 v4 v5 : Value} (hb9 : w b = some (.inr (1, [v1, v2, v3, v4, v5]))) (hq : ∀ j : Nat, j < k → ∃ (y : Nat) (vs : List Value), f j = some y ∧ w y = some (.inr (1, vs))) {i : Nat} (hi : i ≤ k) (h1 : k < N) :
    GnV l y_A_add ws_A_add 5 0 0 G w [.ref L, .int (nI i), .ref b] (fun w1 => AddQ G w w1 L E i k b N f) := by
  refine met_ent (by decide +kernel) (Nat.le_of_ble_eq_true rfl) (fun p e s m below meth c ls C0 hr hin hH hl => ?_)
  have hx := C0.1
  have hb := C0.2.1
  have hS : va_S (gA G) s.heap s.heap [] := va_S.rf
  have hA : ∀ q : Nat, s.heap.size ≤ q → gA G q := fun q h => Nat.le_trans C0.ev.2.2.2.2.2.2.2.2.2.2.2.2 h
  have hl : lv_has ls 5 [(0, .ref L), (1, .int (nI i)), (2, .ref b)] := hl
  refine lv_aload_n hx hb d_A_add_0 rfl (lv_at hl 0 rfl) ?_
  refine lv_iload_n hx hb d_A_add_1 rfl (lv_at hl 1 rfl) ?_
  refine pu_n (runV C0 (k_A_rangeCheckForAdd l G w hL hi (by omega)) (cs_A_135 C0 ⟨Nat.le_of_ble_eq_true rfl, Nat.le_of_ble_eq_true rfl⟩) hH hS (hd_recv C0.hK hH rfl hL) rfl hl.1 rfl (lv_room (Nat.le_of_ble_eq_true rfl)) d_A_add_2 ⟨by show _ ≤ 0; omega, by show _ ≤ 0; omega⟩) ?_
  refine lv_aload_n hx hb d_A_add_5 rfl (lv_at hl 0 rfl) ?_
  refine lv_dup hx hb d_A_add_6 rfl ?_
  refine gf_A_63 C0 hH hL rfl d_A_add_7 ?_
  refine lv_iconst (v := 1) hx hb d_A_add_10 (by decide) ?_
  refine lv_iadd hx hb d_A_add_11 ?_
  refine pf_A_63 C0 hH hS hL rfl rfl (Nat.le_of_ble_eq_true rfl) d_A_add_12 (fun H locs hH hS => ?_)
  obtain ⟨w1, ew1⟩ : ∃ z : World, z = va_up w L (some (.inr (0, [.int (md + 1), .ref E, .int (nI k)]))) := ⟨_, rfl⟩
  have hH : Hw G w1 H := by rw [ew1]; exact hH
  have hw1_b : w1 b = some (.inr (1, [v1, v2, v3, v4, v5])) := by rw [ew1, va_up_ne _ _ (wne hb9 hL (by simp))]; exact hb9
  have hw1_E : w1 E = some (.inl (G.2.1.2.2.2, N, .inr (.inr (.inr (.inr f))))) := by rw [ew1, va_up_ne _ _ (wne hE hL (by simp))]; exact hE
  have hw1_L : w1 L = some (.inr (0, [.int (md + 1), .ref E, .int (nI k)])) := by rw [ew1]; exact va_up_self _ _ _
  have hqw1_0 : ∀ j : Nat, j < k → ∃ (y : Nat) (vs : List Value), f j = some y ∧ w1 y = some (.inr (1, vs)) := fun j hj => by obtain ⟨y, vs, g1, g2⟩ := hq j hj; exact ⟨y, vs, g1, by rw [ew1, va_up_ne _ _ (wne g2 hL (by simp))]; exact g2⟩
  refine lv_aload_n hx hb d_A_add_15 rfl (lv_at hl 0 rfl) ?_
  refine gf_A_48 C0 hH hw1_L rfl d_A_add_16 ?_
  refine lv_dup hx hb d_A_add_19 rfl ?_
  refine lv_istore_n (lv' := [(3, .int (nI k)), (0, .ref L), (1, .int (nI i)), (2, .ref b)]) hx hb d_A_add_20 rfl hl (by decide) rfl (fun ls hl => ?_)
  refine lv_aload_n hx hb d_A_add_21 rfl (lv_at hl 1 rfl) ?_
  refine gf_A_9 C0 hH hw1_L rfl d_A_add_22 ?_
  refine lv_dup hx hb d_A_add_25 rfl ?_
  refine lv_astore (lv' := [(4, .ref E), (3, .int (nI k)), (0, .ref L), (1, .int (nI i)), (2, .ref b)]) hx hb d_A_add_26 hl (by decide) rfl (fun ls hl => ?_)
  refine hd_alen hx hb C0.hK hH 3 hw1_E rfl (v := nI N) rfl d_A_add_28 ?_
  refine lv_icmp_ne (tgt := 38) hx hb d_A_add_29 (by decide) (fun c_29 => ?_) (fun c_29 => ?_)
  · refine lv_aload hx hb d_A_add_38 (lv_at hl 0 rfl) ?_
    refine lv_iload_n hx hb d_A_add_40 rfl (lv_at hl 3 rfl) ?_
    refine lv_aload hx hb d_A_add_41 (lv_at hl 0 rfl) ?_
    refine lv_iload_n hx hb d_A_add_43 rfl (lv_at hl 3 rfl) ?_
    refine lv_iconst (v := 1) hx hb d_A_add_44 (by decide) ?_
    refine lv_iadd hx hb d_A_add_45 ?_
    rw [show ((nI i) + 1) = nI (i + 1) from nI_1 i]
    refine lv_iload_n hx hb d_A_add_46 rfl (lv_at hl 1 rfl) ?_
    refine lv_iload_n hx hb d_A_add_47 rfl (lv_at hl 3 rfl) ?_
    refine lv_isub hx hb d_A_add_48 ?_
    rw [show ((nI k) - (nI i)) = nI (k - i) from pk_sub hi]
    refine hd_copyq (r := ("BoxDrawer$Box", TX, 5)) hx hb (C0.2.2.1.trans hl.1.symm) C0.2.2.2.1 (C0.2.2.2.2.1 _ mw_563) (C0.2.2.2.2.1 _ mw_137) (C0.2.2.2.2.1 _ mw_136) (C0.2.2.2.2.1 _ mw_21) C0.hK hH hS 3 1 hw1_E hw1_E rfl (C0.ev.2.2.2.2.2.2.1 (Cond.castable "BoxDrawer$Box" "java/lang/Object") (by decide +kernel)) rfl (nI_pos (by omega)) (nI_pos (by omega)) (nI_pos (by omega)) (by rw [nI_clamp (by omega), nI_clamp (by omega)]; omega) (by rw [nI_clamp (by omega), nI_clamp (by omega)]; omega) (fun j hj y hy => by rw [nI_clamp (by omega)] at hj hy; obtain ⟨y2, vs, g1, g2⟩ := hqw1_0 (i + j) (by omega); rw [g1] at hy; cases hy; exact ⟨vs, g2⟩) (Nat.le_of_ble_eq_true rfl) (Nat.le_of_ble_eq_true rfl) d_A_add_49 (fun H locs hH hS => ?_)
    rw [nI_clamp (by omega), nI_clamp (by omega), nI_clamp (by omega)] at hH
    obtain ⟨w2, ew2⟩ : ∃ z : World, z = va_up w1 E (some (.inl (G.2.1.2.2.2, N, .inr (.inr (.inr (.inr (va_cpy f f i (i + 1) (k - i)))))))) := ⟨_, rfl⟩
    have hH : Hw G w2 H := by rw [ew2]; exact hH
    have hw2_b : w2 b = some (.inr (1, [v1, v2, v3, v4, v5])) := by rw [ew2, va_up_ne _ _ (wne hw1_b hw1_E (by simp))]; exact hw1_b
    have hw2_L : w2 L = some (.inr (0, [.int (md + 1), .ref E, .int (nI k)])) := by rw [ew2, va_up_ne _ _ (wne hw1_L hw1_E (by simp))]; exact hw1_L
    have hw2_E : w2 E = some (.inl (G.2.1.2.2.2, N, .inr (.inr (.inr (.inr (va_cpy f f i (i + 1) (k - i))))))) := by rw [ew2]; exact va_up_self _ _ _
    have hqw2_0 : ∀ j : Nat, j < k → ∃ (y : Nat) (vs : List Value), f j = some y ∧ w2 y = some (.inr (1, vs)) := fun j hj => by obtain ⟨y, vs, g1, g2⟩ := hqw1_0 j hj; exact ⟨y, vs, g1, by rw [ew2, va_up_ne _ _ (wne g2 hw1_E (by simp))]; exact g2⟩
    refine lv_aload hx hb d_A_add_52 (lv_at hl 0 rfl) ?_
    refine lv_iload_n hx hb d_A_add_54 rfl (lv_at hl 3 rfl) ?_
    refine lv_aload_n hx hb d_A_add_55 rfl (lv_at hl 4 rfl) ?_
    refine hd_astqO (r := ("BoxDrawer$Box", TX, 5)) hx hb C0.hK hH hS 3 1 hw2_E rfl (C0.ev.2.2.2.2.2.2.1 (Cond.castable "BoxDrawer$Box" "java/lang/Object") (by decide +kernel)) hw2_b rfl (vp_in_nI (by omega) (by omega)) d_A_add_56 (fun H locs hH hS => ?_)
    rw [nI_clamp (by omega)] at hH
    obtain ⟨w3, ew3⟩ : ∃ z : World, z = va_up w2 E (some (.inl (G.2.1.2.2.2, N, .inr (.inr (.inr (.inr (va_up (va_cpy f f i (i + 1) (k - i)) i (some b)))))))) := ⟨_, rfl⟩
    have hH : Hw G w3 H := by rw [ew3]; exact hH
    have hw3_b : w3 b = some (.inr (1, [v1, v2, v3, v4, v5])) := by rw [ew3, va_up_ne _ _ (wne hw2_b hw2_E (by simp))]; exact hw2_b
    have hw3_L : w3 L = some (.inr (0, [.int (md + 1), .ref E, .int (nI k)])) := by rw [ew3, va_up_ne _ _ (wne hw2_L hw2_E (by simp))]; exact hw2_L
    have hw3_E : w3 E = some (.inl (G.2.1.2.2.2, N, .inr (.inr (.inr (.inr (va_up (va_cpy f f i (i + 1) (k - i)) i (some b))))))) := by rw [ew3]; exact va_up_self _ _ _
    have hqw3_0 : ∀ j : Nat, j < k → ∃ (y : Nat) (vs : List Value), f j = some y ∧ w3 y = some (.inr (1, vs)) := fun j hj => by obtain ⟨y, vs, g1, g2⟩ := hqw2_0 j hj; exact ⟨y, vs, g1, by rw [ew3, va_up_ne _ _ (wne g2 hw2_E (by simp))]; exact g2⟩
    refine lv_aload_n hx hb d_A_add_57 rfl (lv_at hl 2 rfl) ?_
    refine lv_iload_n hx hb d_A_add_58 rfl (lv_at hl 1 rfl) ?_
    refine lv_iconst (v := 1) hx hb d_A_add_59 (by decide) ?_
    refine lv_iadd hx hb d_A_add_60 ?_
    rw [show ((nI k) + 1) = nI (k + 1) from nI_1 k]
    refine pf_A_48 C0 hH hS hw3_L rfl rfl (Nat.le_of_ble_eq_true rfl) d_A_add_61 (fun H locs hH hS => ?_)
    obtain ⟨w4, ew4⟩ : ∃ z : World, z = va_up w3 L (some (.inr (0, [.int (md + 1), .ref E, .int (nI (k + 1))]))) := ⟨_, rfl⟩
    have hH : Hw G w4 H := by rw [ew4]; exact hH
    have hw4_b : w4 b = some (.inr (1, [v1, v2, v3, v4, v5])) := by rw [ew4, va_up_ne _ _ (wne hw3_b hw3_L (by simp))]; exact hw3_b
    have hw4_E : w4 E = some (.inl (G.2.1.2.2.2, N, .inr (.inr (.inr (.inr (va_up (va_cpy f f i (i + 1) (k - i)) i (some b))))))) := by rw [ew4, va_up_ne _ _ (wne hw3_E hw3_L (by simp))]; exact hw3_E
    have hw4_L : w4 L = some (.inr (0, [.int (md + 1), .ref E, .int (nI (k + 1))])) := by rw [ew4]; exact va_up_self _ _ _
    have hqw4_0 : ∀ j : Nat, j < k → ∃ (y : Nat) (vs : List Value), f j = some y ∧ w4 y = some (.inr (1, vs)) := fun j hj => by obtain ⟨y, vs, g1, g2⟩ := hqw3_0 j hj; exact ⟨y, vs, g1, by rw [ew4, va_up_ne _ _ (wne g2 hw3_L (by simp))]; exact g2⟩
    refine W.widen (k := 0) (n := 0) (by omega) (by omega) ?_
    exact W.vret hx hb hr (fun t ht hW => ⟨⟨w4, rfl, (by obtain ⟨a1, a2, a3⟩ := add_f (b := b) hi (fun _ _ => rfl); exact ⟨E, _, _, hw4_L, hw4_E, a1, a2, a3, Or.inl rfl, by rw [ew4, ew3, ew2, ew1]; exact (((Kp.up (Or.inl (by simp))).ups (Or.inl (by simp))).ups (Or.inl (by simp))).ups (Or.inl (by simp))⟩), Wo.at C0.ev hH hS ht hW⟩, hS.F ht⟩) hS.2.2 d_A_add_64 (hlocks := C0.2.2.2.2.2.2)
  · exact absurd ((nI_eq (by omega) (by omega)).mp c_29) (by omega)

set_option maxHeartbeats 4000000 in
set_option maxRecDepth 100000 in
theorem k_A_add1 (l : Launch) (G : Gl) (w : World) {L E k : Nat} {md : Int32} {f : Nat → Option Nat} (hL : w L = some (.inr (0, [.int md, .ref E, .int (nI k)]))) (hE : w E = some (.inl (G.2.1.2.2.2, k, .inr (.inr (.inr (.inr f)))))) (h0 : 0 < k) (hN : k ≤ 60000) {b : Nat} {v1 v2 v3 v4 v5 : Value} (hb9 : w b = some (.inr (1, [v1, v2, v3, v4, v5]))) (hq : ∀ j : Nat, j < k → ∃ (y : Nat) (vs : List Value), f j = some y ∧ w y = some (.inr (1, vs))) {i : Nat} (hi : i ≤ k) :
    GnV l y_A_add ws_A_add 5 1 (k + max 1 (k / 2)) G w [.ref L, .int (nI i), .ref b] (fun w1 => AddQ G w w1 L E i k b (k + max 1 (k / 2)) f) := by
  refine met_ent (by decide +kernel) (Nat.le_of_ble_eq_true rfl) (fun p e s m below meth c ls C0 hr hin hH hl => ?_)
  have hx := C0.1
  have hb := C0.2.1
  have hS : va_S (gA G) s.heap s.heap [] := va_S.rf
  have hA : ∀ q : Nat, s.heap.size ≤ q → gA G q := fun q h => Nat.le_trans C0.ev.2.2.2.2.2.2.2.2.2.2.2.2 h
  have hl : lv_has ls 5 [(0, .ref L), (1, .int (nI i)), (2, .ref b)] := hl
  refine lv_aload_n hx hb d_A_add_0 rfl (lv_at hl 0 rfl) ?_
  refine lv_iload_n hx hb d_A_add_1 rfl (lv_at hl 1 rfl) ?_
  refine pu_n (runV C0 (k_A_rangeCheckForAdd l G w hL hi (by omega)) (cs_A_135 C0 ⟨Nat.le_of_ble_eq_true rfl, Nat.le_of_ble_eq_true rfl⟩) hH hS (hd_recv C0.hK hH rfl hL) rfl hl.1 rfl (lv_room (Nat.le_of_ble_eq_true rfl)) d_A_add_2 ⟨by show _ ≤ 1; omega, by show _ ≤ (k + max 1 (k / 2)); omega⟩) ?_
  refine lv_aload_n hx hb d_A_add_5 rfl (lv_at hl 0 rfl) ?_
  refine lv_dup hx hb d_A_add_6 rfl ?_
  refine gf_A_63 C0 hH hL rfl d_A_add_7 ?_
  refine lv_iconst (v := 1) hx hb d_A_add_10 (by decide) ?_
  refine lv_iadd hx hb d_A_add_11 ?_
  refine pf_A_63 C0 hH hS hL rfl rfl (Nat.le_of_ble_eq_true rfl) d_A_add_12 (fun H locs hH hS => ?_)
  obtain ⟨w1, ew1⟩ : ∃ z : World, z = va_up w L (some (.inr (0, [.int (md + 1), .ref E, .int (nI k)]))) := ⟨_, rfl⟩
  have hH : Hw G w1 H := by rw [ew1]; exact hH
  have hw1_b : w1 b = some (.inr (1, [v1, v2, v3, v4, v5])) := by rw [ew1, va_up_ne _ _ (wne hb9 hL (by simp))]; exact hb9
  have hw1_E : w1 E = some (.inl (G.2.1.2.2.2, k, .inr (.inr (.inr (.inr f))))) := by rw [ew1, va_up_ne _ _ (wne hE hL (by simp))]; exact hE
  have hw1_L : w1 L = some (.inr (0, [.int (md + 1), .ref E, .int (nI k)])) := by rw [ew1]; exact va_up_self _ _ _
  have hqw1_0 : ∀ j : Nat, j < k → ∃ (y : Nat) (vs : List Value), f j = some y ∧ w1 y = some (.inr (1, vs)) := fun j hj => by obtain ⟨y, vs, g1, g2⟩ := hq j hj; exact ⟨y, vs, g1, by rw [ew1, va_up_ne _ _ (wne g2 hL (by simp))]; exact g2⟩
  refine lv_aload_n hx hb d_A_add_15 rfl (lv_at hl 0 rfl) ?_
  refine gf_A_48 C0 hH hw1_L rfl d_A_add_16 ?_
  refine lv_dup hx hb d_A_add_19 rfl ?_
  refine lv_istore_n (lv' := [(3, .int (nI k)), (0, .ref L), (1, .int (nI i)), (2, .ref b)]) hx hb d_A_add_20 rfl hl (by decide) rfl (fun ls hl => ?_)
  refine lv_aload_n hx hb d_A_add_21 rfl (lv_at hl 1 rfl) ?_
  refine gf_A_9 C0 hH hw1_L rfl d_A_add_22 ?_
  refine lv_dup hx hb d_A_add_25 rfl ?_
  refine lv_astore (lv' := [(4, .ref E), (3, .int (nI k)), (0, .ref L), (1, .int (nI i)), (2, .ref b)]) hx hb d_A_add_26 hl (by decide) rfl (fun ls hl => ?_)
  refine hd_alen hx hb C0.hK hH 3 hw1_E rfl (v := nI k) rfl d_A_add_28 ?_
  refine lv_icmp_ne (tgt := 38) hx hb d_A_add_29 (by decide) (fun c_29 => ?_) (fun c_29 => ?_)
  · exact absurd rfl c_29
  · refine lv_aload_n hx hb d_A_add_32 rfl (lv_at hl 2 rfl) ?_
    refine gn_q (runV C0 (k_A_grow1 l G w1 hw1_L hw1_E h0 hN hqw1_0) (cs_A_129 C0 ⟨Nat.le_of_ble_eq_true rfl, Nat.le_of_ble_eq_true rfl⟩) hH hS (hd_recv C0.hK hH rfl hw1_L) rfl hl.1 rfl (lv_room (Nat.le_of_ble_eq_true rfl)) d_A_add_33 ⟨by show _ ≤ 1; omega, by show _ ≤ (k + max 1 (k / 2)); omega⟩) hS (fun r2 w2 H locs hp2 hH hS => ?_)
    obtain ⟨E1, rfl, hnE1, ew2⟩ := hp2
    have hw2_L : w2 L = some (.inr (0, [.int (md + 1), .ref E1, .int (nI k)])) := by rw [ew2]; exact va_up_self _ _ _
    have hw2_E1 : w2 E1 = some (.inl (G.2.1.2.2.2, (k + max 1 (k / 2)), .inr (.inr (.inr (.inr (va_cpy f (fun _ => none) 0 0 k)))))) := by rw [ew2, va_up_ne _ _ (wnf hw1_L hnE1).symm]; exact va_up_self _ _ _
    have hw2_b : w2 b = some (.inr (1, [v1, v2, v3, v4, v5])) := by rw [ew2, va_up_ne _ _ (wne hw1_b hw1_L (by simp)), va_up_ne _ _ (wnf hw1_b hnE1)]; exact hw1_b
    have hnE0 : w E1 = none := by have h := hnE1; rw [ew1] at h; exact up_none h
    have hqw2 : ∀ j : Nat, j < k → ∃ (y : Nat) (vs : List Value), (va_cpy f (fun _ => none) 0 0 k) j = some y ∧ w2 y = some (.inr (1, vs)) := fun j hj => by obtain ⟨y, vs, g1, g2⟩ := hqw1_0 j hj; exact ⟨y, vs, by rw [pk_cpy_in (Nat.zero_le _) (by omega), show 0 + (j - 0) = j by omega]; exact g1, by rw [ew2, va_up_ne _ _ (wne g2 hw1_L (by simp)), va_up_ne _ _ (wnf g2 hnE1)]; exact g2⟩
    refine lv_astore (lv' := [(4, .ref E1), (3, .int (nI k)), (0, .ref L), (1, .int (nI i)), (2, .ref b)]) hx hb d_A_add_36 hl (by decide) rfl (fun ls hl => ?_)
    refine lv_aload hx hb d_A_add_38 (lv_at hl 0 rfl) ?_
    refine lv_iload_n hx hb d_A_add_40 rfl (lv_at hl 3 rfl) ?_
    refine lv_aload hx hb d_A_add_41 (lv_at hl 0 rfl) ?_
    refine lv_iload_n hx hb d_A_add_43 rfl (lv_at hl 3 rfl) ?_
    refine lv_iconst (v := 1) hx hb d_A_add_44 (by decide) ?_
    refine lv_iadd hx hb d_A_add_45 ?_
    rw [show ((nI i) + 1) = nI (i + 1) from nI_1 i]
    refine lv_iload_n hx hb d_A_add_46 rfl (lv_at hl 1 rfl) ?_
    refine lv_iload_n hx hb d_A_add_47 rfl (lv_at hl 3 rfl) ?_
    refine lv_isub hx hb d_A_add_48 ?_
    rw [show ((nI k) - (nI i)) = nI (k - i) from pk_sub hi]
    refine hd_copyq (r := ("BoxDrawer$Box", TX, 5)) hx hb (C0.2.2.1.trans hl.1.symm) C0.2.2.2.1 (C0.2.2.2.2.1 _ mw_563) (C0.2.2.2.2.1 _ mw_137) (C0.2.2.2.2.1 _ mw_136) (C0.2.2.2.2.1 _ mw_21) C0.hK hH hS 3 1 hw2_E1 hw2_E1 rfl (C0.ev.2.2.2.2.2.2.1 (Cond.castable "BoxDrawer$Box" "java/lang/Object") (by decide +kernel)) rfl (nI_pos (by omega)) (nI_pos (by omega)) (nI_pos (by omega)) (by rw [nI_clamp (by omega), nI_clamp (by omega)]; omega) (by rw [nI_clamp (by omega), nI_clamp (by omega)]; omega) (fun j hj y hy => by rw [nI_clamp (by omega)] at hj hy; obtain ⟨y2, vs, g1, g2⟩ := hqw2 (i + j) (by omega); rw [g1] at hy; cases hy; exact ⟨vs, g2⟩) (Nat.le_of_ble_eq_true rfl) (Nat.le_of_ble_eq_true rfl) d_A_add_49 (fun H locs hH hS => ?_)
    rw [nI_clamp (by omega), nI_clamp (by omega), nI_clamp (by omega)] at hH
    obtain ⟨w3, ew3⟩ : ∃ z : World, z = va_up w2 E1 (some (.inl (G.2.1.2.2.2, (k + max 1 (k / 2)), .inr (.inr (.inr (.inr (va_cpy (va_cpy f (fun _ => none) 0 0 k) (va_cpy f (fun _ => none) 0 0 k) i (i + 1) (k - i)))))))) := ⟨_, rfl⟩
    have hH : Hw G w3 H := by rw [ew3]; exact hH
    have hw3_L : w3 L = some (.inr (0, [.int (md + 1), .ref E1, .int (nI k)])) := by rw [ew3, va_up_ne _ _ (wne hw2_L hw2_E1 (by simp))]; exact hw2_L
    have hw3_b : w3 b = some (.inr (1, [v1, v2, v3, v4, v5])) := by rw [ew3, va_up_ne _ _ (wne hw2_b hw2_E1 (by simp))]; exact hw2_b
    have hw3_E1 : w3 E1 = some (.inl (G.2.1.2.2.2, (k + max 1 (k / 2)), .inr (.inr (.inr (.inr (va_cpy (va_cpy f (fun _ => none) 0 0 k) (va_cpy f (fun _ => none) 0 0 k) i (i + 1) (k - i))))))) := by rw [ew3]; exact va_up_self _ _ _
    have hqw3_0 : ∀ j : Nat, j < k → ∃ (y : Nat) (vs : List Value), (va_cpy f (fun _ => none) 0 0 k) j = some y ∧ w3 y = some (.inr (1, vs)) := fun j hj => by obtain ⟨y, vs, g1, g2⟩ := hqw2 j hj; exact ⟨y, vs, g1, by rw [ew3, va_up_ne _ _ (wne g2 hw2_E1 (by simp))]; exact g2⟩
    refine lv_aload hx hb d_A_add_52 (lv_at hl 0 rfl) ?_
    refine lv_iload_n hx hb d_A_add_54 rfl (lv_at hl 3 rfl) ?_
    refine lv_aload_n hx hb d_A_add_55 rfl (lv_at hl 4 rfl) ?_
    refine hd_astqO (r := ("BoxDrawer$Box", TX, 5)) hx hb C0.hK hH hS 3 1 hw3_E1 rfl (C0.ev.2.2.2.2.2.2.1 (Cond.castable "BoxDrawer$Box" "java/lang/Object") (by decide +kernel)) hw3_b rfl (vp_in_nI (by omega) (by omega)) d_A_add_56 (fun H locs hH hS => ?_)
    rw [nI_clamp (by omega)] at hH
    obtain ⟨w4, ew4⟩ : ∃ z : World, z = va_up w3 E1 (some (.inl (G.2.1.2.2.2, (k + max 1 (k / 2)), .inr (.inr (.inr (.inr (va_up (va_cpy (va_cpy f (fun _ => none) 0 0 k) (va_cpy f (fun _ => none) 0 0 k) i (i + 1) (k - i)) i (some b)))))))) := ⟨_, rfl⟩
    have hH : Hw G w4 H := by rw [ew4]; exact hH
    have hw4_L : w4 L = some (.inr (0, [.int (md + 1), .ref E1, .int (nI k)])) := by rw [ew4, va_up_ne _ _ (wne hw3_L hw3_E1 (by simp))]; exact hw3_L
    have hw4_b : w4 b = some (.inr (1, [v1, v2, v3, v4, v5])) := by rw [ew4, va_up_ne _ _ (wne hw3_b hw3_E1 (by simp))]; exact hw3_b
    have hw4_E1 : w4 E1 = some (.inl (G.2.1.2.2.2, (k + max 1 (k / 2)), .inr (.inr (.inr (.inr (va_up (va_cpy (va_cpy f (fun _ => none) 0 0 k) (va_cpy f (fun _ => none) 0 0 k) i (i + 1) (k - i)) i (some b))))))) := by rw [ew4]; exact va_up_self _ _ _
    have hqw4_0 : ∀ j : Nat, j < k → ∃ (y : Nat) (vs : List Value), (va_cpy f (fun _ => none) 0 0 k) j = some y ∧ w4 y = some (.inr (1, vs)) := fun j hj => by obtain ⟨y, vs, g1, g2⟩ := hqw3_0 j hj; exact ⟨y, vs, g1, by rw [ew4, va_up_ne _ _ (wne g2 hw3_E1 (by simp))]; exact g2⟩
    refine lv_aload_n hx hb d_A_add_57 rfl (lv_at hl 2 rfl) ?_
    refine lv_iload_n hx hb d_A_add_58 rfl (lv_at hl 1 rfl) ?_
    refine lv_iconst (v := 1) hx hb d_A_add_59 (by decide) ?_
    refine lv_iadd hx hb d_A_add_60 ?_
    rw [show ((nI k) + 1) = nI (k + 1) from nI_1 k]
    refine pf_A_48 C0 hH hS hw4_L rfl rfl (Nat.le_of_ble_eq_true rfl) d_A_add_61 (fun H locs hH hS => ?_)
    obtain ⟨w5, ew5⟩ : ∃ z : World, z = va_up w4 L (some (.inr (0, [.int (md + 1), .ref E1, .int (nI (k + 1))]))) := ⟨_, rfl⟩
    have hH : Hw G w5 H := by rw [ew5]; exact hH
    have hw5_b : w5 b = some (.inr (1, [v1, v2, v3, v4, v5])) := by rw [ew5, va_up_ne _ _ (wne hw4_b hw4_L (by simp))]; exact hw4_b
    have hw5_E1 : w5 E1 = some (.inl (G.2.1.2.2.2, (k + max 1 (k / 2)), .inr (.inr (.inr (.inr (va_up (va_cpy (va_cpy f (fun _ => none) 0 0 k) (va_cpy f (fun _ => none) 0 0 k) i (i + 1) (k - i)) i (some b))))))) := by rw [ew5, va_up_ne _ _ (wne hw4_E1 hw4_L (by simp))]; exact hw4_E1
    have hw5_L : w5 L = some (.inr (0, [.int (md + 1), .ref E1, .int (nI (k + 1))])) := by rw [ew5]; exact va_up_self _ _ _
    have hqw5_0 : ∀ j : Nat, j < k → ∃ (y : Nat) (vs : List Value), (va_cpy f (fun _ => none) 0 0 k) j = some y ∧ w5 y = some (.inr (1, vs)) := fun j hj => by obtain ⟨y, vs, g1, g2⟩ := hqw4_0 j hj; exact ⟨y, vs, g1, by rw [ew5, va_up_ne _ _ (wne g2 hw4_L (by simp))]; exact g2⟩
    refine W.widen (k := 1) (n := (k + max 1 (k / 2))) (by omega) (by omega) ?_
    exact W.vret hx hb hr (fun t ht hW => ⟨⟨w5, rfl, (by obtain ⟨a1, a2, a3⟩ := add_f (fa := va_cpy f (fun _ => none) 0 0 k) (f := f) (b := b) hi (fun j hj => by rw [pk_cpy_in (Nat.zero_le _) (by omega), show 0 + (j - 0) = j by omega]); exact ⟨E1, _, _, hw5_L, hw5_E1, a1, a2, a3, Or.inr hnE0, by rw [ew5, ew4, ew3, ew2, ew1]; exact (by have hin0 : L ∈ [L, E] := List.mem_cons_self ..; exact ((((((Kp.up (Or.inl hin0)).ups (Or.inr hnE0)).ups (Or.inl hin0)).ups (Or.inr hnE0)).ups (Or.inr hnE0)).ups (Or.inl hin0)))⟩), Wo.at C0.ev hH hS ht hW⟩, hS.F ht⟩) hS.2.2 d_A_add_64 (hlocks := C0.2.2.2.2.2.2)

set_option maxHeartbeats 4000000 in
set_option maxRecDepth 100000 in
theorem k_A_add2 (l : Launch) (G : Gl) (w : World) {L : Nat} {md : Int32} (hL : w L = some (.inr (0, [.int md, .ref (ge0 G), .int (nI 0)]))) {b : Nat} {v1 v2 v3 v4 v5 : Value} (hb9 : w b = some (.inr (1, [v1, v2, v3, v4, v5])))  :
    GnV l y_A_add ws_A_add 5 1 10 G w [.ref L, .int (nI 0), .ref b] (fun w1 => ∀ f : Nat → Option Nat, AddQ G w w1 L (ge0 G) 0 0 b 10 f) := by
  refine met_ent (by decide +kernel) (Nat.le_of_ble_eq_true rfl) (fun p e s m below meth c ls C0 hr hin hH hl => ?_)
  have hx := C0.1
  have hb := C0.2.1
  have hS : va_S (gA G) s.heap s.heap [] := va_S.rf
  have hA : ∀ q : Nat, s.heap.size ≤ q → gA G q := fun q h => Nat.le_trans C0.ev.2.2.2.2.2.2.2.2.2.2.2.2 h
  have hl : lv_has ls 5 [(0, .ref L), (1, .int (nI 0)), (2, .ref b)] := hl
  refine lv_aload_n hx hb d_A_add_0 rfl (lv_at hl 0 rfl) ?_
  refine lv_iload_n hx hb d_A_add_1 rfl (lv_at hl 1 rfl) ?_
  refine pu_n (runV C0 (k_A_rangeCheckForAdd l G w hL (Nat.le_refl _) (by omega)) (cs_A_135 C0 ⟨Nat.le_of_ble_eq_true rfl, Nat.le_of_ble_eq_true rfl⟩) hH hS (hd_recv C0.hK hH rfl hL) rfl hl.1 rfl (lv_room (Nat.le_of_ble_eq_true rfl)) d_A_add_2 ⟨by show _ ≤ 1; omega, by show _ ≤ 10; omega⟩) ?_
  refine lv_aload_n hx hb d_A_add_5 rfl (lv_at hl 0 rfl) ?_
  refine lv_dup hx hb d_A_add_6 rfl ?_
  refine gf_A_63 C0 hH hL rfl d_A_add_7 ?_
  refine lv_iconst (v := 1) hx hb d_A_add_10 (by decide) ?_
  refine lv_iadd hx hb d_A_add_11 ?_
  refine pf_A_63 C0 hH hS hL rfl rfl (Nat.le_of_ble_eq_true rfl) d_A_add_12 (fun H locs hH hS => ?_)
  obtain ⟨w1, ew1⟩ : ∃ z : World, z = va_up w L (some (.inr (0, [.int (md + 1), .ref (ge0 G), .int (nI 0)]))) := ⟨_, rfl⟩
  have hH : Hw G w1 H := by rw [ew1]; exact hH
  have hw1_b : w1 b = some (.inr (1, [v1, v2, v3, v4, v5])) := by rw [ew1, va_up_ne _ _ (wne hb9 hL (by simp))]; exact hb9
  have hw1_L : w1 L = some (.inr (0, [.int (md + 1), .ref (ge0 G), .int (nI 0)])) := by rw [ew1]; exact va_up_self _ _ _
  refine lv_aload_n hx hb d_A_add_15 rfl (lv_at hl 0 rfl) ?_
  refine gf_A_48 C0 hH hw1_L rfl d_A_add_16 ?_
  refine lv_dup hx hb d_A_add_19 rfl ?_
  refine lv_istore_n (lv' := [(3, .int (nI 0)), (0, .ref L), (1, .int (nI 0)), (2, .ref b)]) hx hb d_A_add_20 rfl hl (by decide) rfl (fun ls hl => ?_)
  refine lv_aload_n hx hb d_A_add_21 rfl (lv_at hl 1 rfl) ?_
  refine gf_A_9 C0 hH hw1_L rfl d_A_add_22 ?_
  refine lv_dup hx hb d_A_add_25 rfl ?_
  refine lv_astore (lv' := [(4, .ref (ge0 G)), (3, .int (nI 0)), (0, .ref L), (1, .int (nI 0)), (2, .ref b)]) hx hb d_A_add_26 hl (by decide) rfl (fun ls hl => ?_)
  refine e0_len C0 hS d_A_add_28 ?_
  refine lv_icmp_ne (tgt := 38) hx hb d_A_add_29 (by decide) (fun c_29 => ?_) (fun c_29 => ?_)
  · exact absurd rfl c_29
  · refine lv_aload_n hx hb d_A_add_32 rfl (lv_at hl 2 rfl) ?_
    refine gn_q (runV C0 (k_A_grow0 l G w1 hw1_L) (cs_A_129 C0 ⟨Nat.le_of_ble_eq_true rfl, Nat.le_of_ble_eq_true rfl⟩) hH hS (hd_recv C0.hK hH rfl hw1_L) rfl hl.1 rfl (lv_room (Nat.le_of_ble_eq_true rfl)) d_A_add_33 ⟨by show _ ≤ 1; omega, by show _ ≤ 10; omega⟩) hS (fun r2 w2 H locs hp2 hH hS => ?_)
    obtain ⟨E1, rfl, hnE1, ew2⟩ := hp2
    have hw2_L : w2 L = some (.inr (0, [.int (md + 1), .ref E1, .int (nI 0)])) := by rw [ew2]; exact va_up_self _ _ _
    have hw2_E1 : w2 E1 = some (.inl (G.2.1.2.2.2, 10, .inr (.inr (.inr (.inr (fun _ => none)))))) := by rw [ew2, va_up_ne _ _ (wnf hw1_L hnE1).symm]; exact va_up_self _ _ _
    have hw2_b : w2 b = some (.inr (1, [v1, v2, v3, v4, v5])) := by rw [ew2, va_up_ne _ _ (wne hw1_b hw1_L (by simp)), va_up_ne _ _ (wnf hw1_b hnE1)]; exact hw1_b
    have hnE0 : w E1 = none := by have h := hnE1; rw [ew1] at h; exact up_none h
    have hqw2 : ∀ j : Nat, j < 0 → ∃ (y : Nat) (vs : List Value), (fun _ => none : Nat → Option Nat) j = some y ∧ w2 y = some (.inr (1, vs)) := fun j hj => absurd hj (Nat.not_lt_zero _)
    refine lv_astore (lv' := [(4, .ref E1), (3, .int (nI 0)), (0, .ref L), (1, .int (nI 0)), (2, .ref b)]) hx hb d_A_add_36 hl (by decide) rfl (fun ls hl => ?_)
    refine lv_aload hx hb d_A_add_38 (lv_at hl 0 rfl) ?_
    refine lv_iload_n hx hb d_A_add_40 rfl (lv_at hl 3 rfl) ?_
    refine lv_aload hx hb d_A_add_41 (lv_at hl 0 rfl) ?_
    refine lv_iload_n hx hb d_A_add_43 rfl (lv_at hl 3 rfl) ?_
    refine lv_iconst (v := 1) hx hb d_A_add_44 (by decide) ?_
    refine lv_iadd hx hb d_A_add_45 ?_
    rw [show ((nI 0) + 1) = nI (0 + 1) from nI_1 0]
    refine lv_iload_n hx hb d_A_add_46 rfl (lv_at hl 1 rfl) ?_
    refine lv_iload_n hx hb d_A_add_47 rfl (lv_at hl 3 rfl) ?_
    refine lv_isub hx hb d_A_add_48 ?_
    rw [show nI 0 - nI 0 = nI (0 - 0) from pk_sub (Nat.le_refl _)]
    refine hd_copyq (r := ("BoxDrawer$Box", TX, 5)) hx hb (C0.2.2.1.trans hl.1.symm) C0.2.2.2.1 (C0.2.2.2.2.1 _ mw_563) (C0.2.2.2.2.1 _ mw_137) (C0.2.2.2.2.1 _ mw_136) (C0.2.2.2.2.1 _ mw_21) C0.hK hH hS 3 1 hw2_E1 hw2_E1 rfl (C0.ev.2.2.2.2.2.2.1 (Cond.castable "BoxDrawer$Box" "java/lang/Object") (by decide +kernel)) rfl (nI_pos (by omega)) (nI_pos (by omega)) (nI_pos (by omega)) (by (repeat rw [nI_clamp (by omega)]); omega) (by (repeat rw [nI_clamp (by omega)]); omega) (fun j hj y hy => by rw [nI_clamp (by omega)] at hj; exact absurd hj (by omega)) (Nat.le_of_ble_eq_true rfl) (Nat.le_of_ble_eq_true rfl) d_A_add_49 (fun H locs hH hS => ?_)
    repeat rw [nI_clamp (by omega)] at hH
    obtain ⟨w3, ew3⟩ : ∃ z : World, z = va_up w2 E1 (some (.inl (G.2.1.2.2.2, 10, .inr (.inr (.inr (.inr (va_cpy (fun _ => none) (fun _ => none) 0 (0 + 1) (0 - 0)))))))) := ⟨_, rfl⟩
    have hH : Hw G w3 H := by rw [ew3]; exact hH
    have hw3_L : w3 L = some (.inr (0, [.int (md + 1), .ref E1, .int (nI 0)])) := by rw [ew3, va_up_ne _ _ (wne hw2_L hw2_E1 (by simp))]; exact hw2_L
    have hw3_b : w3 b = some (.inr (1, [v1, v2, v3, v4, v5])) := by rw [ew3, va_up_ne _ _ (wne hw2_b hw2_E1 (by simp))]; exact hw2_b
    have hw3_E1 : w3 E1 = some (.inl (G.2.1.2.2.2, 10, .inr (.inr (.inr (.inr (va_cpy (fun _ => none) (fun _ => none) 0 (0 + 1) (0 - 0))))))) := by rw [ew3]; exact va_up_self _ _ _
    have hqw3_0 : ∀ j : Nat, j < 0 → ∃ (y : Nat) (vs : List Value), (fun _ => none : Nat → Option Nat) j = some y ∧ w3 y = some (.inr (1, vs)) := fun j hj => by obtain ⟨y, vs, g1, g2⟩ := hqw2 j hj; exact ⟨y, vs, g1, by rw [ew3, va_up_ne _ _ (wne g2 hw2_E1 (by simp))]; exact g2⟩
    refine lv_aload hx hb d_A_add_52 (lv_at hl 0 rfl) ?_
    refine lv_iload_n hx hb d_A_add_54 rfl (lv_at hl 3 rfl) ?_
    refine lv_aload_n hx hb d_A_add_55 rfl (lv_at hl 4 rfl) ?_
    refine hd_astqO (r := ("BoxDrawer$Box", TX, 5)) hx hb C0.hK hH hS 3 1 hw3_E1 rfl (C0.ev.2.2.2.2.2.2.1 (Cond.castable "BoxDrawer$Box" "java/lang/Object") (by decide +kernel)) hw3_b rfl (vp_in_nI (by omega) (by omega)) d_A_add_56 (fun H locs hH hS => ?_)
    rw [nI_clamp (by omega)] at hH
    obtain ⟨w4, ew4⟩ : ∃ z : World, z = va_up w3 E1 (some (.inl (G.2.1.2.2.2, 10, .inr (.inr (.inr (.inr (va_up (va_cpy (fun _ => none) (fun _ => none) 0 (0 + 1) (0 - 0)) 0 (some b)))))))) := ⟨_, rfl⟩
    have hH : Hw G w4 H := by rw [ew4]; exact hH
    have hw4_L : w4 L = some (.inr (0, [.int (md + 1), .ref E1, .int (nI 0)])) := by rw [ew4, va_up_ne _ _ (wne hw3_L hw3_E1 (by simp))]; exact hw3_L
    have hw4_b : w4 b = some (.inr (1, [v1, v2, v3, v4, v5])) := by rw [ew4, va_up_ne _ _ (wne hw3_b hw3_E1 (by simp))]; exact hw3_b
    have hw4_E1 : w4 E1 = some (.inl (G.2.1.2.2.2, 10, .inr (.inr (.inr (.inr (va_up (va_cpy (fun _ => none) (fun _ => none) 0 (0 + 1) (0 - 0)) 0 (some b))))))) := by rw [ew4]; exact va_up_self _ _ _
    have hqw4_0 : ∀ j : Nat, j < 0 → ∃ (y : Nat) (vs : List Value), (fun _ => none : Nat → Option Nat) j = some y ∧ w4 y = some (.inr (1, vs)) := fun j hj => by obtain ⟨y, vs, g1, g2⟩ := hqw3_0 j hj; exact ⟨y, vs, g1, by rw [ew4, va_up_ne _ _ (wne g2 hw3_E1 (by simp))]; exact g2⟩
    refine lv_aload_n hx hb d_A_add_57 rfl (lv_at hl 2 rfl) ?_
    refine lv_iload_n hx hb d_A_add_58 rfl (lv_at hl 1 rfl) ?_
    refine lv_iconst (v := 1) hx hb d_A_add_59 (by decide) ?_
    refine lv_iadd hx hb d_A_add_60 ?_
    rw [show ((nI 0) + 1) = nI (0 + 1) from nI_1 0]
    refine pf_A_48 C0 hH hS hw4_L rfl rfl (Nat.le_of_ble_eq_true rfl) d_A_add_61 (fun H locs hH hS => ?_)
    obtain ⟨w5, ew5⟩ : ∃ z : World, z = va_up w4 L (some (.inr (0, [.int (md + 1), .ref E1, .int (nI (0 + 1))]))) := ⟨_, rfl⟩
    have hH : Hw G w5 H := by rw [ew5]; exact hH
    have hw5_b : w5 b = some (.inr (1, [v1, v2, v3, v4, v5])) := by rw [ew5, va_up_ne _ _ (wne hw4_b hw4_L (by simp))]; exact hw4_b
    have hw5_E1 : w5 E1 = some (.inl (G.2.1.2.2.2, 10, .inr (.inr (.inr (.inr (va_up (va_cpy (fun _ => none) (fun _ => none) 0 (0 + 1) (0 - 0)) 0 (some b))))))) := by rw [ew5, va_up_ne _ _ (wne hw4_E1 hw4_L (by simp))]; exact hw4_E1
    have hw5_L : w5 L = some (.inr (0, [.int (md + 1), .ref E1, .int (nI (0 + 1))])) := by rw [ew5]; exact va_up_self _ _ _
    have hqw5_0 : ∀ j : Nat, j < 0 → ∃ (y : Nat) (vs : List Value), (fun _ => none : Nat → Option Nat) j = some y ∧ w5 y = some (.inr (1, vs)) := fun j hj => by obtain ⟨y, vs, g1, g2⟩ := hqw4_0 j hj; exact ⟨y, vs, g1, by rw [ew5, va_up_ne _ _ (wne g2 hw4_L (by simp))]; exact g2⟩
    refine W.widen (k := 1) (n := 10) (by omega) (by omega) ?_
    exact W.vret hx hb hr (fun t ht hW => ⟨⟨w5, rfl, (by intro f; obtain ⟨a1, a2, a3⟩ := add_f (fa := fun _ => none) (f := f) (b := b) (Nat.le_refl 0) (fun j hj => absurd hj (Nat.not_lt_zero _)); exact ⟨E1, _, _, hw5_L, hw5_E1, a1, a2, a3, Or.inr hnE0, by rw [ew5, ew4, ew3, ew2, ew1]; exact (by have hin0 : L ∈ [L, ge0 G] := List.mem_cons_self ..; exact ((((((Kp.up (Or.inl hin0)).ups (Or.inr hnE0)).ups (Or.inl hin0)).ups (Or.inr hnE0)).ups (Or.inr hnE0)).ups (Or.inl hin0)))⟩), Wo.at C0.ev hH hS ht hW⟩, hS.F ht⟩) hS.2.2 d_A_add_64 (hlocks := C0.2.2.2.2.2.2)
end
section
/-! remove, clear -/
theorem rem_f {f : Nat → Option Nat} {i k : Nat} (hi : i < k) : (∀ j : Nat, j < i → va_up (va_cpy f f (i + 1) i (k - 1 - i)) (k - 1) none j = f j) ∧ ∀ j : Nat, i ≤ j → j < k - 1 → va_up (va_cpy f f (i + 1) i (k - 1 - i)) (k - 1) none j = f (j + 1) := by
  refine ⟨fun j hj => ?_, fun j h1 h2 => ?_⟩
  · rw [va_up_ne _ _ (by omega), pk_cpy_out (by omega)]
  · rw [va_up_ne _ _ (by omega), pk_cpy_in (by omega) (by omega), show i + 1 + (j - i) = j + 1 by omega]
theorem rem_f0 {f : Nat → Option Nat} {i k : Nat} (hi : i + 1 = k) : (∀ j : Nat, j < i → va_up f (k - 1) none j = f j) ∧ ∀ j : Nat, i ≤ j → j < k - 1 → va_up f (k - 1) none j = f (j + 1) :=
  ⟨fun j hj => va_up_ne _ _ (by omega), fun j h1 h2 => absurd h1 (by omega)⟩
/-- an emptied list -/
def ClrQ (G : Gl) (w w1 : World) (L E N : Nat) (f : Nat → Option Nat) : Prop := ∃ (f1 : Nat → Option Nat) (md1 : Int32), w1 L = some (.inr (0, [.int md1, .ref E, .int (nI 0)])) ∧ ((E = ge0 G ∧ N = 0) ∨ w1 E = some (.inl (G.2.1.2.2.2, N, .inr (.inr (.inr (.inr f1)))))) ∧ Kp w w1 [L, E]

set_option maxHeartbeats 4000000 in
set_option maxRecDepth 100000 in
theorem k_A_fastRemove (l : Launch) (G : Gl) (w : World) {L E N k : Nat} {md : Int32} {f : Nat → Option Nat} (hL : w L = some (.inr (0, [.int md, .ref E, .int (nI k)]))) (hE : w E = some (.inl (G.2.1.2.2.2, N, .inr (.inr (.inr (.inr f)))))) (hk : k ≤ N) (hN : N ≤ 100000) (hq : ∀ j : Nat, j < k → ∃ (y : Nat) (vs : List Value), f j = some y ∧ w y = some (.inr (1, vs))) {i : Nat} (hi : i < k) :
    GnV l y_A_fastRemove ws_A_fastRemove 1 0 0 G w [.ref L, .ref E, .int (nI i)] (fun w1 => RemQ G w w1 L E i k N f) := by
  refine met_ent (by decide +kernel) (Nat.le_of_ble_eq_true rfl) (fun p e s m below meth c ls C0 hr hin hH hl => ?_)
  have hx := C0.1
  have hb := C0.2.1
  have hS : va_S (gA G) s.heap s.heap [] := va_S.rf
  have hA : ∀ q : Nat, s.heap.size ≤ q → gA G q := fun q h => Nat.le_trans C0.ev.2.2.2.2.2.2.2.2.2.2.2.2 h
  have hl : lv_has ls 4 [(0, .ref L), (1, .ref E), (2, .int (nI i))] := hl
  refine lv_aload_n hx hb d_A_fastRemove_0 rfl (lv_at hl 0 rfl) ?_
  refine lv_dup hx hb d_A_fastRemove_1 rfl ?_
  refine gf_A_63 C0 hH hL rfl d_A_fastRemove_2 ?_
  refine lv_iconst (v := 1) hx hb d_A_fastRemove_5 (by decide) ?_
  refine lv_iadd hx hb d_A_fastRemove_6 ?_
  refine pf_A_63 C0 hH hS hL rfl rfl (Nat.le_of_ble_eq_true rfl) d_A_fastRemove_7 (fun H locs hH hS => ?_)
  obtain ⟨w1, ew1⟩ : ∃ z : World, z = va_up w L (some (.inr (0, [.int (md + 1), .ref E, .int (nI k)]))) := ⟨_, rfl⟩
  have hH : Hw G w1 H := by rw [ew1]; exact hH
  have hw1_E : w1 E = some (.inl (G.2.1.2.2.2, N, .inr (.inr (.inr (.inr f))))) := by rw [ew1, va_up_ne _ _ (wne hE hL (by simp))]; exact hE
  have hw1_L : w1 L = some (.inr (0, [.int (md + 1), .ref E, .int (nI k)])) := by rw [ew1]; exact va_up_self _ _ _
  have hqw1_0 : ∀ j : Nat, j < k → ∃ (y : Nat) (vs : List Value), f j = some y ∧ w1 y = some (.inr (1, vs)) := fun j hj => by obtain ⟨y, vs, g1, g2⟩ := hq j hj; exact ⟨y, vs, g1, by rw [ew1, va_up_ne _ _ (wne g2 hL (by simp))]; exact g2⟩
  refine lv_aload_n hx hb d_A_fastRemove_10 rfl (lv_at hl 0 rfl) ?_
  refine gf_A_48 C0 hH hw1_L rfl d_A_fastRemove_11 ?_
  refine lv_iconst (v := 1) hx hb d_A_fastRemove_14 (by decide) ?_
  refine lv_isub hx hb d_A_fastRemove_15 ?_
  rw [show ((nI k) - 1) = nI (k - 1) from pk_sub (show 1 ≤ k by omega)]
  refine lv_dup hx hb d_A_fastRemove_16 rfl ?_
  refine lv_istore_n (lv' := [(3, .int (nI (k - 1))), (0, .ref L), (1, .ref E), (2, .int (nI i))]) hx hb d_A_fastRemove_17 rfl hl (by decide) rfl (fun ls hl => ?_)
  refine lv_iload_n hx hb d_A_fastRemove_18 rfl (lv_at hl 3 rfl) ?_
  refine lv_icmp_le (tgt := 34) hx hb d_A_fastRemove_19 (by decide) (fun c_19 => ?_) (fun c_19 => ?_)
  · have hge : k - 1 ≤ i := Nat.le_of_not_lt (fun h => absurd c_19 (Int32.not_le.mpr (nI_lt h (by omega))))
    refine lv_aload_n hx hb d_A_fastRemove_34 rfl (lv_at hl 2 rfl) ?_
    refine lv_aload_n hx hb d_A_fastRemove_35 rfl (lv_at hl 1 rfl) ?_
    refine lv_iload_n hx hb d_A_fastRemove_36 rfl (lv_at hl 0 rfl) ?_
    refine lv_dup_x1 hx hb d_A_fastRemove_37 rfl rfl ?_
    refine pf_A_48 C0 hH hS hw1_L rfl rfl (Nat.le_of_ble_eq_true rfl) d_A_fastRemove_38 (fun H locs hH hS => ?_)
    obtain ⟨w2, ew2⟩ : ∃ z : World, z = va_up w1 L (some (.inr (0, [.int (md + 1), .ref E, .int (nI (k - 1))]))) := ⟨_, rfl⟩
    have hH : Hw G w2 H := by rw [ew2]; exact hH
    have hw2_E : w2 E = some (.inl (G.2.1.2.2.2, N, .inr (.inr (.inr (.inr f))))) := by rw [ew2, va_up_ne _ _ (wne hw1_E hw1_L (by simp))]; exact hw1_E
    have hw2_L : w2 L = some (.inr (0, [.int (md + 1), .ref E, .int (nI (k - 1))])) := by rw [ew2]; exact va_up_self _ _ _
    have hqw2_0 : ∀ j : Nat, j < k → ∃ (y : Nat) (vs : List Value), f j = some y ∧ w2 y = some (.inr (1, vs)) := fun j hj => by obtain ⟨y, vs, g1, g2⟩ := hqw1_0 j hj; exact ⟨y, vs, g1, by rw [ew2, va_up_ne _ _ (wne g2 hw1_L (by simp))]; exact g2⟩
    refine lv_null hx hb d_A_fastRemove_41 ?_
    refine hd_astqN hx hb C0.hK hH hS 3 hw2_E rfl (vp_in_nI (by omega) (by omega)) d_A_fastRemove_42 (fun H locs hH hS => ?_)
    rw [nI_clamp (by omega)] at hH
    obtain ⟨w3, ew3⟩ : ∃ z : World, z = va_up w2 E (some (.inl (G.2.1.2.2.2, N, .inr (.inr (.inr (.inr (va_up f (k - 1) none))))))) := ⟨_, rfl⟩
    have hH : Hw G w3 H := by rw [ew3]; exact hH
    have hw3_L : w3 L = some (.inr (0, [.int (md + 1), .ref E, .int (nI (k - 1))])) := by rw [ew3, va_up_ne _ _ (wne hw2_L hw2_E (by simp))]; exact hw2_L
    have hw3_E : w3 E = some (.inl (G.2.1.2.2.2, N, .inr (.inr (.inr (.inr (va_up f (k - 1) none)))))) := by rw [ew3]; exact va_up_self _ _ _
    have hqw3_0 : ∀ j : Nat, j < k → ∃ (y : Nat) (vs : List Value), f j = some y ∧ w3 y = some (.inr (1, vs)) := fun j hj => by obtain ⟨y, vs, g1, g2⟩ := hqw2_0 j hj; exact ⟨y, vs, g1, by rw [ew3, va_up_ne _ _ (wne g2 hw2_E (by simp))]; exact g2⟩
    refine W.widen (k := 0) (n := 0) (by omega) (by omega) ?_
    exact W.vret hx hb hr (fun t ht hW => ⟨⟨w3, rfl, ⟨_, _, hw3_L, hw3_E, (rem_f0 (by omega)).1, (rem_f0 (by omega)).2, by rw [ew3, ew2, ew1]; exact ((Kp.up (Or.inl (by simp))).ups (Or.inl (by simp))).ups (Or.inl (by simp))⟩, Wo.at C0.ev hH hS ht hW⟩, hS.F ht⟩) hS.2.2 d_A_fastRemove_43 (hlocks := C0.2.2.2.2.2.2)
  · have hlt : i < k - 1 := Nat.not_le.mp (fun h => c_19 (nI_le h (by omega)))
    refine lv_aload_n hx hb d_A_fastRemove_22 rfl (lv_at hl 2 rfl) ?_
    refine lv_iload_n hx hb d_A_fastRemove_23 rfl (lv_at hl 3 rfl) ?_
    refine lv_iconst (v := 1) hx hb d_A_fastRemove_24 (by decide) ?_
    refine lv_iadd hx hb d_A_fastRemove_25 ?_
    rw [show ((nI i) + 1) = nI (i + 1) from nI_1 i]
    refine lv_aload_n hx hb d_A_fastRemove_26 rfl (lv_at hl 2 rfl) ?_
    refine lv_iload_n hx hb d_A_fastRemove_27 rfl (lv_at hl 3 rfl) ?_
    refine lv_iload_n hx hb d_A_fastRemove_28 rfl (lv_at hl 0 rfl) ?_
    refine lv_iload_n hx hb d_A_fastRemove_29 rfl (lv_at hl 3 rfl) ?_
    refine lv_isub hx hb d_A_fastRemove_30 ?_
    rw [show ((nI (k - 1)) - (nI i)) = nI (k - 1 - i) from pk_sub (by omega)]
    refine hd_copyq (r := ("BoxDrawer$Box", TX, 5)) hx hb (C0.2.2.1.trans hl.1.symm) C0.2.2.2.1 (C0.2.2.2.2.1 _ mw_563) (C0.2.2.2.2.1 _ mw_137) (C0.2.2.2.2.1 _ mw_136) (C0.2.2.2.2.1 _ mw_21) C0.hK hH hS 3 1 hw1_E hw1_E rfl (C0.ev.2.2.2.2.2.2.1 (Cond.castable "BoxDrawer$Box" "java/lang/Object") (by decide +kernel)) rfl (nI_pos (by omega)) (nI_pos (by omega)) (nI_pos (by omega)) (by rw [nI_clamp (by omega), nI_clamp (by omega)]; omega) (by rw [nI_clamp (by omega), nI_clamp (by omega)]; omega) (fun j hj y hy => by rw [nI_clamp (by omega)] at hj hy; obtain ⟨y2, vs, g1, g2⟩ := hqw1_0 (i + 1 + j) (by omega); rw [g1] at hy; cases hy; exact ⟨vs, g2⟩) (Nat.le_of_ble_eq_true rfl) (Nat.le_of_ble_eq_true rfl) d_A_fastRemove_31 (fun H locs hH hS => ?_)
    rw [nI_clamp (by omega), nI_clamp (by omega), nI_clamp (by omega)] at hH
    obtain ⟨w4, ew4⟩ : ∃ z : World, z = va_up w1 E (some (.inl (G.2.1.2.2.2, N, .inr (.inr (.inr (.inr (va_cpy f f (i + 1) i (k - 1 - i)))))))) := ⟨_, rfl⟩
    have hH : Hw G w4 H := by rw [ew4]; exact hH
    have hw4_L : w4 L = some (.inr (0, [.int (md + 1), .ref E, .int (nI k)])) := by rw [ew4, va_up_ne _ _ (wne hw1_L hw1_E (by simp))]; exact hw1_L
    have hw4_E : w4 E = some (.inl (G.2.1.2.2.2, N, .inr (.inr (.inr (.inr (va_cpy f f (i + 1) i (k - 1 - i))))))) := by rw [ew4]; exact va_up_self _ _ _
    have hqw4_0 : ∀ j : Nat, j < k → ∃ (y : Nat) (vs : List Value), f j = some y ∧ w4 y = some (.inr (1, vs)) := fun j hj => by obtain ⟨y, vs, g1, g2⟩ := hqw1_0 j hj; exact ⟨y, vs, g1, by rw [ew4, va_up_ne _ _ (wne g2 hw1_E (by simp))]; exact g2⟩
    refine lv_aload_n hx hb d_A_fastRemove_34 rfl (lv_at hl 2 rfl) ?_
    refine lv_aload_n hx hb d_A_fastRemove_35 rfl (lv_at hl 1 rfl) ?_
    refine lv_iload_n hx hb d_A_fastRemove_36 rfl (lv_at hl 0 rfl) ?_
    refine lv_dup_x1 hx hb d_A_fastRemove_37 rfl rfl ?_
    refine pf_A_48 C0 hH hS hw4_L rfl rfl (Nat.le_of_ble_eq_true rfl) d_A_fastRemove_38 (fun H locs hH hS => ?_)
    obtain ⟨w5, ew5⟩ : ∃ z : World, z = va_up w4 L (some (.inr (0, [.int (md + 1), .ref E, .int (nI (k - 1))]))) := ⟨_, rfl⟩
    have hH : Hw G w5 H := by rw [ew5]; exact hH
    have hw5_E : w5 E = some (.inl (G.2.1.2.2.2, N, .inr (.inr (.inr (.inr (va_cpy f f (i + 1) i (k - 1 - i))))))) := by rw [ew5, va_up_ne _ _ (wne hw4_E hw4_L (by simp))]; exact hw4_E
    have hw5_L : w5 L = some (.inr (0, [.int (md + 1), .ref E, .int (nI (k - 1))])) := by rw [ew5]; exact va_up_self _ _ _
    have hqw5_0 : ∀ j : Nat, j < k → ∃ (y : Nat) (vs : List Value), f j = some y ∧ w5 y = some (.inr (1, vs)) := fun j hj => by obtain ⟨y, vs, g1, g2⟩ := hqw4_0 j hj; exact ⟨y, vs, g1, by rw [ew5, va_up_ne _ _ (wne g2 hw4_L (by simp))]; exact g2⟩
    refine lv_null hx hb d_A_fastRemove_41 ?_
    refine hd_astqN hx hb C0.hK hH hS 3 hw5_E rfl (vp_in_nI (by omega) (by omega)) d_A_fastRemove_42 (fun H locs hH hS => ?_)
    rw [nI_clamp (by omega)] at hH
    obtain ⟨w6, ew6⟩ : ∃ z : World, z = va_up w5 E (some (.inl (G.2.1.2.2.2, N, .inr (.inr (.inr (.inr (va_up (va_cpy f f (i + 1) i (k - 1 - i)) (k - 1) none))))))) := ⟨_, rfl⟩
    have hH : Hw G w6 H := by rw [ew6]; exact hH
    have hw6_L : w6 L = some (.inr (0, [.int (md + 1), .ref E, .int (nI (k - 1))])) := by rw [ew6, va_up_ne _ _ (wne hw5_L hw5_E (by simp))]; exact hw5_L
    have hw6_E : w6 E = some (.inl (G.2.1.2.2.2, N, .inr (.inr (.inr (.inr (va_up (va_cpy f f (i + 1) i (k - 1 - i)) (k - 1) none)))))) := by rw [ew6]; exact va_up_self _ _ _
    have hqw6_0 : ∀ j : Nat, j < k → ∃ (y : Nat) (vs : List Value), f j = some y ∧ w6 y = some (.inr (1, vs)) := fun j hj => by obtain ⟨y, vs, g1, g2⟩ := hqw5_0 j hj; exact ⟨y, vs, g1, by rw [ew6, va_up_ne _ _ (wne g2 hw5_E (by simp))]; exact g2⟩
    refine W.widen (k := 0) (n := 0) (by omega) (by omega) ?_
    exact W.vret hx hb hr (fun t ht hW => ⟨⟨w6, rfl, ⟨_, _, hw6_L, hw6_E, (rem_f hi).1, (rem_f hi).2, by rw [ew6, ew5, ew4, ew1]; exact (((Kp.up (Or.inl (by simp))).ups (Or.inl (by simp))).ups (Or.inl (by simp))).ups (Or.inl (by simp))⟩, Wo.at C0.ev hH hS ht hW⟩, hS.F ht⟩) hS.2.2 d_A_fastRemove_43 (hlocks := C0.2.2.2.2.2.2)

set_option maxHeartbeats 4000000 in
set_option maxRecDepth 100000 in
theorem k_A_remove (l : Launch) (G : Gl) (w : World) {L E N k : Nat} {md : Int32} {f : Nat → Option Nat} (hL : w L = some (.inr (0, [.int md, .ref E, .int (nI k)]))) (hE : w E = some (.inl (G.2.1.2.2.2, N, .inr (.inr (.inr (.inr f)))))) (hk : k ≤ N) (hN : N ≤ 100000) (hq : ∀ j : Nat, j < k → ∃ (y : Nat) (vs : List Value), f j = some y ∧ w y = some (.inr (1, vs))) {i y : Nat} (hi : i < k) (hy : f i = some y) :
    GnQ l y_A_remove ws_A_remove 2 0 0 G w [.ref L, .int (nI i)] (fun r w1 => r = some y ∧ RemQ G w w1 L E i k N f) := by
  refine met_ent (by decide +kernel) (Nat.le_of_ble_eq_true rfl) (fun p e s m below meth c ls C0 hr hin hH hl => ?_)
  have hx := C0.1
  have hb := C0.2.1
  have hS : va_S (gA G) s.heap s.heap [] := va_S.rf
  have hA : ∀ q : Nat, s.heap.size ≤ q → gA G q := fun q h => Nat.le_trans C0.ev.2.2.2.2.2.2.2.2.2.2.2.2 h
  have hl : lv_has ls 4 [(0, .ref L), (1, .int (nI i))] := hl
  refine lv_iload_n hx hb d_A_remove_0 rfl (lv_at hl 1 rfl) ?_
  refine lv_aload_n hx hb d_A_remove_1 rfl (lv_at hl 0 rfl) ?_
  refine gf_A_48 C0 hH hL rfl d_A_remove_2 ?_
  refine pu_v (runS C0 (k_O_checkIndex l G w (nI_pos (by omega)) (nI_lt hi (by omega))) (cs_A_118 C0 ⟨Nat.le_of_ble_eq_true rfl, Nat.le_of_ble_eq_true rfl⟩) hH hS rfl hl.1 rfl (lv_room (Nat.le_of_ble_eq_true rfl)) d_A_remove_5 ⟨by show _ ≤ 0; omega, by show _ ≤ 0; omega⟩) ?_
  refine lv_pop hx hb d_A_remove_8 rfl ?_
  refine lv_aload_n hx hb d_A_remove_9 rfl (lv_at hl 0 rfl) ?_
  refine gf_A_9 C0 hH hL rfl d_A_remove_10 ?_
  refine lv_astore_n (lv' := [(2, .ref E), (0, .ref L), (1, .int (nI i))]) hx hb d_A_remove_13 rfl hl (by decide) rfl (fun ls hl => ?_)
  refine lv_aload_n hx hb d_A_remove_14 rfl (lv_at hl 0 rfl) ?_
  refine lv_iload_n hx hb d_A_remove_15 rfl (lv_at hl 2 rfl) ?_
  refine hd_aldq hx hb C0.hK hH 3 hE rfl (vp_in_nI (by omega) (by omega)) d_A_remove_16 ?_
  rw [nI_clamp (by omega), hy]
  refine lv_astore_n (lv' := [(3, .ref y), (2, .ref E), (0, .ref L), (1, .int (nI i))]) hx hb d_A_remove_17 rfl hl (by decide) rfl (fun ls hl => ?_)
  refine lv_aload_n hx hb d_A_remove_18 rfl (lv_at hl 2 rfl) ?_
  refine lv_aload_n hx hb d_A_remove_19 rfl (lv_at hl 1 rfl) ?_
  refine lv_iload_n hx hb d_A_remove_20 rfl (lv_at hl 3 rfl) ?_
  refine gn_v (runV C0 (k_A_fastRemove l G w hL hE hk hN hq hi) (cs_A_144 C0 ⟨Nat.le_of_ble_eq_true rfl, Nat.le_of_ble_eq_true rfl⟩) hH hS (hd_recv C0.hK hH rfl hL) rfl hl.1 rfl (lv_room (Nat.le_of_ble_eq_true rfl)) d_A_remove_21 ⟨by show _ ≤ 0; omega, by show _ ≤ 0; omega⟩) hS (fun w1 H locs hp1 hH hS => ?_)
  refine lv_aload_n hx hb d_A_remove_24 rfl (lv_at hl 0 rfl) ?_
  refine W.widen (k := 0) (n := 0) (by omega) (by omega) ?_
  exact W.aret hx hb hr (Or.inl ⟨_, rfl⟩) (Or.inr ⟨_, rfl⟩) (fun t ht hW => ⟨⟨some y, w1, rfl, ⟨rfl, hp1⟩, Wo.at C0.ev hH hS ht hW⟩, hS.F ht⟩) hS.2.2 d_A_remove_25 (hlocks := C0.2.2.2.2.2.2)

set_option maxHeartbeats 4000000 in
set_option maxRecDepth 100000 in
theorem k_A_clear0 (l : Launch) (G : Gl) (w : World) {L E N : Nat} {md : Int32} {f : Nat → Option Nat} (hL : w L = some (.inr (0, [.int md, .ref E, .int (nI 0)]))) (hE : (E = ge0 G ∧ N = 0) ∨ w E = some (.inl (G.2.1.2.2.2, N, .inr (.inr (.inr (.inr f))))))  :
    GnV l y_A_clear ws_A_clear 0 0 0 G w [.ref L] (fun w1 => ClrQ G w w1 L E N f) := by
  refine met_ent (by decide +kernel) (Nat.le_of_ble_eq_true rfl) (fun p e s m below meth c ls C0 hr hin hH hl => ?_)
  have hx := C0.1
  have hb := C0.2.1
  have hS : va_S (gA G) s.heap s.heap [] := va_S.rf
  have hA : ∀ q : Nat, s.heap.size ≤ q → gA G q := fun q h => Nat.le_trans C0.ev.2.2.2.2.2.2.2.2.2.2.2.2 h
  have hl : lv_has ls 4 [(0, .ref L)] := hl
  refine lv_aload_n hx hb d_A_clear_0 rfl (lv_at hl 0 rfl) ?_
  refine lv_dup hx hb d_A_clear_1 rfl ?_
  refine gf_A_63 C0 hH hL rfl d_A_clear_2 ?_
  refine lv_iconst (v := 1) hx hb d_A_clear_5 (by decide) ?_
  refine lv_iadd hx hb d_A_clear_6 ?_
  refine pf_A_63 C0 hH hS hL rfl rfl (Nat.le_of_ble_eq_true rfl) d_A_clear_7 (fun H locs hH hS => ?_)
  obtain ⟨w1, ew1⟩ : ∃ z : World, z = va_up w L (some (.inr (0, [.int (md + 1), .ref E, .int (nI 0)]))) := ⟨_, rfl⟩
  have hH : Hw G w1 H := by rw [ew1]; exact hH
  have hw1_L : w1 L = some (.inr (0, [.int (md + 1), .ref E, .int (nI 0)])) := by rw [ew1]; exact va_up_self _ _ _
  refine lv_aload_n hx hb d_A_clear_10 rfl (lv_at hl 0 rfl) ?_
  refine gf_A_9 C0 hH hw1_L rfl d_A_clear_11 ?_
  refine lv_astore_n (lv' := [(1, .ref E), (0, .ref L)]) hx hb d_A_clear_14 rfl hl (by decide) rfl (fun ls hl => ?_)
  refine lv_aload_n hx hb d_A_clear_15 rfl (lv_at hl 1 rfl) ?_
  refine gf_A_48 C0 hH hw1_L rfl d_A_clear_16 ?_
  refine lv_istore_n (lv' := [(2, .int (nI 0)), (1, .ref E), (0, .ref L)]) hx hb d_A_clear_19 rfl hl (by decide) rfl (fun ls hl => ?_)
  refine lv_aload_n hx hb d_A_clear_20 rfl (lv_at hl 2 rfl) ?_
  refine lv_iconst (v := 0) hx hb d_A_clear_21 (by decide) ?_
  refine lv_dup_x1 hx hb d_A_clear_22 rfl rfl ?_
  refine pf_A_48 C0 hH hS hw1_L rfl rfl (Nat.le_of_ble_eq_true rfl) d_A_clear_23 (fun H locs hH hS => ?_)
  obtain ⟨w2, ew2⟩ : ∃ z : World, z = va_up w1 L (some (.inr (0, [.int (md + 1), .ref E, .int 0]))) := ⟨_, rfl⟩
  have hH : Hw G w2 H := by rw [ew2]; exact hH
  have hw2_L : w2 L = some (.inr (0, [.int (md + 1), .ref E, .int 0])) := by rw [ew2]; exact va_up_self _ _ _
  refine lv_istore_n (lv' := [(3, .int 0), (2, .int (nI 0)), (1, .ref E), (0, .ref L)]) hx hb d_A_clear_26 rfl hl (by decide) rfl (fun ls hl => ?_)
  refine lv_iload_n hx hb d_A_clear_27 rfl (lv_at hl 0 rfl) ?_
  refine lv_iload_n hx hb d_A_clear_28 rfl (lv_at hl 1 rfl) ?_
  refine lv_icmp_ge (tgt := 42) hx hb d_A_clear_29 (by decide) (fun c_29 => ?_) (fun c_29 => ?_)
  · refine W.widen (k := 0) (n := 0) (by omega) (by omega) ?_
    exact W.vret hx hb hr (fun t ht hW => ⟨⟨w2, rfl, ⟨f, _, hw2_L, hE.elim Or.inl (fun h => Or.inr (by rw [ew2, ew1, va_up_ne _ _ (wne h hL (by simp)), va_up_ne _ _ (wne h hL (by simp))]; exact h)), by rw [ew2, ew1]; exact (Kp.up (Or.inl (by simp))).ups (Or.inl (by simp))⟩, Wo.at C0.ev hH hS ht hW⟩, hS.F ht⟩) hS.2.2 d_A_clear_42 (hlocks := C0.2.2.2.2.2.2)
  · exact absurd (show (nI 0 : Int32) ≤ 0 by rw [nI_0]; decide) c_29

set_option maxHeartbeats 4000000 in
set_option maxRecDepth 100000 in
theorem k_A_clear1 (l : Launch) (G : Gl) (w : World) {L E N k : Nat} {md : Int32} {f : Nat → Option Nat} (hL : w L = some (.inr (0, [.int md, .ref E, .int (nI k)]))) (hE : w E = some (.inl (G.2.1.2.2.2, N, .inr (.inr (.inr (.inr f)))))) (hk : k ≤ N) (hN : N ≤ 100000)  :
    GnV l y_A_clear ws_A_clear 0 0 0 G w [.ref L] (fun w1 => ClrQ G w w1 L E N f) := by
  refine met_ent (by decide +kernel) (Nat.le_of_ble_eq_true rfl) (fun p e s m below meth c ls C0 hr hin hH hl => ?_)
  have hx := C0.1
  have hb := C0.2.1
  have hS : va_S (gA G) s.heap s.heap [] := va_S.rf
  have hA : ∀ q : Nat, s.heap.size ≤ q → gA G q := fun q h => Nat.le_trans C0.ev.2.2.2.2.2.2.2.2.2.2.2.2 h
  have hl : lv_has ls 4 [(0, .ref L)] := hl
  refine lv_aload_n hx hb d_A_clear_0 rfl (lv_at hl 0 rfl) ?_
  refine lv_dup hx hb d_A_clear_1 rfl ?_
  refine gf_A_63 C0 hH hL rfl d_A_clear_2 ?_
  refine lv_iconst (v := 1) hx hb d_A_clear_5 (by decide) ?_
  refine lv_iadd hx hb d_A_clear_6 ?_
  refine pf_A_63 C0 hH hS hL rfl rfl (Nat.le_of_ble_eq_true rfl) d_A_clear_7 (fun H locs hH hS => ?_)
  obtain ⟨w1, ew1⟩ : ∃ z : World, z = va_up w L (some (.inr (0, [.int (md + 1), .ref E, .int (nI k)]))) := ⟨_, rfl⟩
  have hH : Hw G w1 H := by rw [ew1]; exact hH
  have hw1_E : w1 E = some (.inl (G.2.1.2.2.2, N, .inr (.inr (.inr (.inr f))))) := by rw [ew1, va_up_ne _ _ (wne hE hL (by simp))]; exact hE
  have hw1_L : w1 L = some (.inr (0, [.int (md + 1), .ref E, .int (nI k)])) := by rw [ew1]; exact va_up_self _ _ _
  refine lv_aload_n hx hb d_A_clear_10 rfl (lv_at hl 0 rfl) ?_
  refine gf_A_9 C0 hH hw1_L rfl d_A_clear_11 ?_
  refine lv_astore_n (lv' := [(1, .ref E), (0, .ref L)]) hx hb d_A_clear_14 rfl hl (by decide) rfl (fun ls hl => ?_)
  refine lv_aload_n hx hb d_A_clear_15 rfl (lv_at hl 1 rfl) ?_
  refine gf_A_48 C0 hH hw1_L rfl d_A_clear_16 ?_
  refine lv_istore_n (lv' := [(2, .int (nI k)), (1, .ref E), (0, .ref L)]) hx hb d_A_clear_19 rfl hl (by decide) rfl (fun ls hl => ?_)
  refine lv_aload_n hx hb d_A_clear_20 rfl (lv_at hl 2 rfl) ?_
  refine lv_iconst (v := 0) hx hb d_A_clear_21 (by decide) ?_
  refine lv_dup_x1 hx hb d_A_clear_22 rfl rfl ?_
  refine pf_A_48 C0 hH hS hw1_L rfl rfl (Nat.le_of_ble_eq_true rfl) d_A_clear_23 (fun H locs hH hS => ?_)
  obtain ⟨w2, ew2⟩ : ∃ z : World, z = va_up w1 L (some (.inr (0, [.int (md + 1), .ref E, .int 0]))) := ⟨_, rfl⟩
  have hH : Hw G w2 H := by rw [ew2]; exact hH
  have hw2_E : w2 E = some (.inl (G.2.1.2.2.2, N, .inr (.inr (.inr (.inr f))))) := by rw [ew2, va_up_ne _ _ (wne hw1_E hw1_L (by simp))]; exact hw1_E
  have hw2_L : w2 L = some (.inr (0, [.int (md + 1), .ref E, .int 0])) := by rw [ew2]; exact va_up_self _ _ _
  refine lv_istore_n (lv' := [(3, .int 0), (2, .int (nI k)), (1, .ref E), (0, .ref L)]) hx hb d_A_clear_26 rfl hl (by decide) rfl (fun ls hl => ?_)
  have loop : ∀ (u j : Nat), j + u = k → ∀ (w9 : World) (f9 : Nat → Option Nat) (H : Heap) (locs : List Loc), Hw G w9 H → va_S (gA G) s.heap H locs → w9 L = some (.inr (0, [.int (md + 1), .ref E, .int 0])) → w9 E = some (.inl (G.2.1.2.2.2, N, .inr (.inr (.inr (.inr f9))))) → Kp w w9 [L, E] → ∀ ls : Array Slot, lv_has ls 4 [(1, .ref E), (2, .int (nI k)), (3, .int (nI j))] → W p l e (rmK 0 0 0) s m [.ref L].toArray below meth c H locs 0 0 (MQ below (va_Qv (fun w1 => ClrQ G w w1 L E N f) (Wo G) (gA G)) [.ref L].toArray s 0 0 (gA G)) (F0 m 27 ls []) := by
    intro u
    induction u with
    | zero =>
      intro j hj w9 f9 H locs hH hS h1 h2 hK9 ls hl
      refine lv_iload_n hx hb d_A_clear_27 rfl (lv_at hl 2 rfl) ?_
      refine lv_iload_n hx hb d_A_clear_28 rfl (lv_at hl 1 rfl) ?_
      refine lv_icmp_ge (tgt := 42) hx hb d_A_clear_29 (by decide) (fun c_29 => ?_) (fun c_29 => ?_)
      · refine W.widen (k := 0) (n := 0) (by omega) (by omega) ?_
        exact W.vret hx hb hr (fun t ht hW => ⟨⟨w9, rfl, ⟨f9, _, h1, Or.inr h2, hK9⟩, Wo.at C0.ev hH hS ht hW⟩, hS.F ht⟩) hS.2.2 d_A_clear_42 (hlocks := C0.2.2.2.2.2.2)
      · exact absurd (nI_le (show k ≤ j by omega) (by omega)) c_29
    | succ u ih =>
      intro j hj w9 f9 H locs hH hS h1 h2 hK9 ls hl
      refine lv_iload_n hx hb d_A_clear_27 rfl (lv_at hl 2 rfl) ?_
      refine lv_iload_n hx hb d_A_clear_28 rfl (lv_at hl 1 rfl) ?_
      refine lv_icmp_ge (tgt := 42) hx hb d_A_clear_29 (by decide) (fun c_29 => ?_) (fun c_29 => ?_)
      · exact absurd c_29 (Int32.not_le.mpr (nI_lt (show j < k by omega) (by omega)))
      · refine lv_aload_n hx hb d_A_clear_32 rfl (lv_at hl 0 rfl) ?_
        refine lv_iload_n hx hb d_A_clear_33 rfl (lv_at hl 2 rfl) ?_
        refine lv_null hx hb d_A_clear_34 ?_
        refine hd_astqN hx hb C0.hK hH hS 3 h2 rfl (vp_in_nI (by omega) (by omega)) d_A_clear_35 (fun H locs hH hS => ?_)
        rw [nI_clamp (by omega)] at hH
        obtain ⟨w3, ew3⟩ : ∃ z : World, z = va_up w9 E (some (.inl (G.2.1.2.2.2, N, .inr (.inr (.inr (.inr (va_up f9 j none))))))) := ⟨_, rfl⟩
        have hH : Hw G w3 H := by rw [ew3]; exact hH
        have hw3_L : w3 L = some (.inr (0, [.int (md + 1), .ref E, .int 0])) := by rw [ew3, va_up_ne _ _ (wne h1 h2 (by simp))]; exact h1
        have hw3_E : w3 E = some (.inl (G.2.1.2.2.2, N, .inr (.inr (.inr (.inr (va_up f9 j none)))))) := by rw [ew3]; exact va_up_self _ _ _
        obtain ⟨y_1, ey_1⟩ : ∃ z : Int32, z = (nI j) + 1 := ⟨_, rfl⟩
        refine lv_iinc (v := y_1) (lv' := [(3, .int y_1), (1, .ref E), (2, .int (nI k))]) hx hb d_A_clear_36 hl (k := 2) rfl (by rw [ey_1]; rfl) (by decide) rfl (fun ls hl => ?_)
        refine lv_goto (tgt := 27) hx hb d_A_clear_39 (by decide) ?_
        rw [show y_1 = nI (j + 1) from by rw [ey_1]; exact nI_1 j] at hl
        exact ih (j + 1) (by omega) w3 _ H locs hH hS hw3_L hw3_E (by rw [ew3]; exact hK9.ups (Or.inl (by simp))) ls (lv_sub hl [1, 2, 0] rfl)
  exact loop k 0 (by omega) w2 f H locs hH hS hw2_L hw2_E (by rw [ew2, ew1]; exact (Kp.up (Or.inl (by simp))).ups (Or.inl (by simp))) ls (lv_sub hl [2, 1, 0] rfl)
end
section
/-! the drawer's questions that write nothing -/
/-- the drawer at x has the boxes bs and the result rs -/
def DAt (G : Gl) (w : World) (x L E F Gd : Nat) (bs : List Bx) (rs : List Int32) (cF : Nat) : Prop :=
  w x = some (.inr (2, [.ref L, .ref F, .int (nI rs.length), .ref Gd])) ∧ (∃ (N : Nat) (f : Nat → Option Nat) (md : Int32), LsAt G w L E N f md bs ∧ ((E = ge0 G ∧ N = 0) ∨ 0 < N)) ∧ (∃ g : Nat → Int32, w F = some (.inl (G.2.1.1, cF, .inl g)) ∧ ∀ (i : Nat) (h : i < rs.length), g i = rs[i]) ∧ (∃ (cG : Nat) (d : Nat → Int64), w Gd = some (.inl (G.2.1.2.1, cG, .inr (.inl d))) ∧ cG ≤ 4096) ∧ rs.length ≤ cF ∧ 16 ≤ cF ∧ cF ≤ 4096
def mmx (k a c : Int32) : Int32 := if k = 0 ∨ k = 1 then (if c < a then c else a) else (if a < c then c else a)
def bdsF (k : Int32) (v : Int32) (bs : List Bx) : Int32 := bs.foldl (fun a b => mmx k a (bnd b k)) v

set_option maxHeartbeats 4000000 in
set_option maxRecDepth 100000 in
theorem k_B_distance (l : Launch) (G : Gl) (w : World) {x L E F Gd cF : Nat} {bs : List Bx} {rs : List Int32} (hD : DAt G w x L E F Gd bs rs cF) (n : Int32) (k : Nat) (px py : Int32) (hs : Srt bs) (hk : Lb bs n k) {b : Bx} (hb9 : bs[k]? = some b) (hn9 : b.1 = n) (hp : okP px py) :
    PuM l y_B_distance ws_B_distance 5 G w [.ref x, .int n, .int px, .int py] (some (.long (bDst b px py))) := by
  refine met_ent (by decide +kernel) (Nat.le_of_ble_eq_true rfl) (fun p e s m below meth c ls C0 hr hin hH hl => ?_)
  have hx := C0.1
  have hb := C0.2.1
  have hS : va_S (gA G) s.heap s.heap [] := va_S.rf
  have hl : lv_has ls 5 [(0, .ref x), (1, .int n), (2, .int px), (3, .int py)] := hl
  obtain ⟨hB, ⟨N, f, md, hLs, hN0⟩, ⟨g, hF, hg⟩, ⟨cG, d, hGd, hcG⟩, hc1, hc2, hc3⟩ := id hD
  obtain ⟨hL1, hL2, hL3, hL4, hL5⟩ := id hLs
  obtain ⟨hk1, rfl⟩ := List.getElem?_eq_some_iff.mp hb9
  obtain ⟨xk, hxk, hxw⟩ := hL5 k hk1
  refine lv_aload_n hx hb d_B_distance_0 rfl (lv_at hl 0 rfl) ?_
  refine lv_iload_n hx hb d_B_distance_1 rfl (lv_at hl 1 rfl) ?_
  refine pu_v (runV C0 (k_B_requireBox l G w n k xk hB hLs hs hk ⟨hk1, hn9⟩ hxk) (cs_B_118 C0 ⟨Nat.le_of_ble_eq_true rfl, Nat.le_of_ble_eq_true rfl⟩) hH hS (hd_recv C0.hK hH rfl hB) rfl hl.1 rfl (lv_room (Nat.le_of_ble_eq_true rfl)) d_B_distance_2 ⟨Nat.zero_le _, Nat.zero_le _⟩) ?_
  refine lv_astore (lv' := [(4, .ref xk), (0, .ref x), (1, .int n), (2, .int px), (3, .int py)]) hx hb d_B_distance_5 hl (by decide) rfl (fun ls hl => ?_)
  refine lv_iload_n hx hb d_B_distance_7 rfl (lv_at hl 3 rfl) ?_
  refine lv_iload_n hx hb d_B_distance_8 rfl (lv_at hl 4 rfl) ?_
  refine pu_n (runS C0 (k_B_requirePlace l G w px py hp) (cs_B_90 C0 ⟨Nat.le_of_ble_eq_true rfl, Nat.le_of_ble_eq_true rfl⟩) hH hS rfl hl.1 rfl (lv_room (Nat.le_of_ble_eq_true rfl)) d_B_distance_9 ⟨Nat.zero_le _, Nat.zero_le _⟩) ?_
  refine lv_aload hx hb d_B_distance_12 (lv_at hl 0 rfl) ?_
  refine lv_iload_n hx hb d_B_distance_14 rfl (lv_at hl 3 rfl) ?_
  refine lv_iload_n hx hb d_B_distance_15 rfl (lv_at hl 4 rfl) ?_
  refine pu_v (runVN C0 (k_X_distanceFrom l G w px py hxw) (cs_B_106 C0 ⟨Nat.le_of_ble_eq_true rfl, Nat.le_of_ble_eq_true rfl⟩) hH hS (hd_recv C0.hK hH rfl hxw) rfl hl.1 rfl (lv_room (Nat.le_of_ble_eq_true rfl)) d_B_distance_16 ⟨Nat.zero_le _, Nat.zero_le _⟩) ?_
  exact W.lret hx hb hr (fun t ht _ => ⟨rfl, ht⟩) (fun _ h => by cases h) d_B_distance_19 (hlocks := C0.2.2.2.2.2.2)

set_option maxHeartbeats 4000000 in
set_option maxRecDepth 100000 in
theorem t_B_distance0 (l : Launch) (hlt : l.stackTraces = false) (G : Gl) (w : World) {x L E F Gd cF : Nat} {bs : List Bx} {rs : List Int32} (hD : DAt G w x L E F Gd bs rs cF) (n : Int32) (k : Nat) (px py : Int32) (hs : Srt bs) (hk : Lb bs n k) (h : ¬ ∃ h : k < bs.length, bs[k].1 = n) :
    ThM l y_B_distance ws_B_distance 7 G w [.ref x, .int n, .int px, .int py] "java/lang/IndexOutOfBoundsException" := by
  refine th_ent (by decide +kernel) (Nat.le_of_ble_eq_true rfl) (fun p e s m below meth c ls C0 ht hH hl => ?_)
  have hx := C0.1
  have hb := C0.2.1
  have hS : va_S (gA G) s.heap s.heap [] := va_S.rf
  have hl : lv_has ls 5 [(0, .ref x), (1, .int n), (2, .int px), (3, .int py)] := hl
  obtain ⟨hB, ⟨N, f, md, hLs, hN0⟩, ⟨g, hF, hg⟩, ⟨cG, d, hGd, hcG⟩, hc1, hc2, hc3⟩ := id hD
  obtain ⟨hL1, hL2, hL3, hL4, hL5⟩ := id hLs
  refine lv_aload_n hx hb d_B_distance_0 rfl (lv_at hl 0 rfl) ?_
  refine lv_iload_n hx hb d_B_distance_1 rfl (lv_at hl 1 rfl) ?_
  exact th_out ht C0.2.2.2.2.2.2 (xrunV C0 (t_B_requireBox l hlt G w n k hB hLs hs hk h) (cs_B_118 C0 ⟨by decide, by decide⟩) hH hS (hd_recv C0.hK hH rfl hB) rfl hl.1 rfl (lv_room (Nat.le_of_ble_eq_true rfl)) d_B_distance_2 ⟨Nat.le_refl _, Nat.le_refl _⟩)

set_option maxHeartbeats 4000000 in
set_option maxRecDepth 100000 in
theorem t_B_distance1 (l : Launch) (hlt : l.stackTraces = false) (G : Gl) (w : World) {x L E F Gd cF : Nat} {bs : List Bx} {rs : List Int32} (hD : DAt G w x L E F Gd bs rs cF) (n : Int32) (k : Nat) (px py : Int32) (hs : Srt bs) (hk : Lb bs n k) {b : Bx} (hb9 : bs[k]? = some b) (hn9 : b.1 = n) (hp : ¬ okP px py) :
    ThM l y_B_distance ws_B_distance 7 G w [.ref x, .int n, .int px, .int py] "java/lang/IllegalArgumentException" := by
  refine th_ent (by decide +kernel) (Nat.le_of_ble_eq_true rfl) (fun p e s m below meth c ls C0 ht hH hl => ?_)
  have hx := C0.1
  have hb := C0.2.1
  have hS : va_S (gA G) s.heap s.heap [] := va_S.rf
  have hl : lv_has ls 5 [(0, .ref x), (1, .int n), (2, .int px), (3, .int py)] := hl
  obtain ⟨hB, ⟨N, f, md, hLs, hN0⟩, ⟨g, hF, hg⟩, ⟨cG, d, hGd, hcG⟩, hc1, hc2, hc3⟩ := id hD
  obtain ⟨hL1, hL2, hL3, hL4, hL5⟩ := id hLs
  obtain ⟨hk1, rfl⟩ := List.getElem?_eq_some_iff.mp hb9
  obtain ⟨xk, hxk, hxw⟩ := hL5 k hk1
  refine lv_aload_n hx hb d_B_distance_0 rfl (lv_at hl 0 rfl) ?_
  refine lv_iload_n hx hb d_B_distance_1 rfl (lv_at hl 1 rfl) ?_
  refine pu_v (runV C0 (k_B_requireBox l G w n k xk hB hLs hs hk ⟨hk1, hn9⟩ hxk) (cs_B_118 C0 ⟨Nat.le_of_ble_eq_true rfl, Nat.le_of_ble_eq_true rfl⟩) hH hS (hd_recv C0.hK hH rfl hB) rfl hl.1 rfl (lv_room (Nat.le_of_ble_eq_true rfl)) d_B_distance_2 ⟨Nat.zero_le _, Nat.zero_le _⟩) ?_
  refine lv_astore (lv' := [(4, .ref xk), (0, .ref x), (1, .int n), (2, .int px), (3, .int py)]) hx hb d_B_distance_5 hl (by decide) rfl (fun ls hl => ?_)
  refine lv_iload_n hx hb d_B_distance_7 rfl (lv_at hl 3 rfl) ?_
  refine lv_iload_n hx hb d_B_distance_8 rfl (lv_at hl 4 rfl) ?_
  exact th_out ht C0.2.2.2.2.2.2 (xrunS C0 (t_B_requirePlace l hlt G w px py hp) (cs_B_90 C0 ⟨by decide, by decide⟩) hH hS rfl hl.1 rfl (lv_room (Nat.le_of_ble_eq_true rfl)) d_B_distance_9 ⟨Nat.le_refl _, Nat.le_refl _⟩)

set_option maxHeartbeats 4000000 in
set_option maxRecDepth 100000 in
theorem k_B_box (l : Launch) (G : Gl) (w : World) {x L E F Gd cF : Nat} {bs : List Bx} {rs : List Int32} (hD : DAt G w x L E F Gd bs rs cF) (n : Int32) (k : Nat) (z : Int32) (hs : Srt bs) (hk : Lb bs n k) {b : Bx} (hb9 : bs[k]? = some b) (hn9 : b.1 = n) (hp : okW z) :
    PuM l y_B_box ws_B_box 5 G w [.ref x, .int n, .int z] (some (.int (bnd b z))) := by
  refine met_ent (by decide +kernel) (Nat.le_of_ble_eq_true rfl) (fun p e s m below meth c ls C0 hr hin hH hl => ?_)
  have hx := C0.1
  have hb := C0.2.1
  have hS : va_S (gA G) s.heap s.heap [] := va_S.rf
  have hl : lv_has ls 4 [(0, .ref x), (1, .int n), (2, .int z)] := hl
  obtain ⟨hB, ⟨N, f, md, hLs, hN0⟩, ⟨g, hF, hg⟩, ⟨cG, d, hGd, hcG⟩, hc1, hc2, hc3⟩ := id hD
  obtain ⟨hL1, hL2, hL3, hL4, hL5⟩ := id hLs
  obtain ⟨hk1, rfl⟩ := List.getElem?_eq_some_iff.mp hb9
  obtain ⟨xk, hxk, hxw⟩ := hL5 k hk1
  refine lv_aload_n hx hb d_B_box_0 rfl (lv_at hl 0 rfl) ?_
  refine lv_iload_n hx hb d_B_box_1 rfl (lv_at hl 1 rfl) ?_
  refine pu_v (runV C0 (k_B_requireBox l G w n k xk hB hLs hs hk ⟨hk1, hn9⟩ hxk) (cs_B_118 C0 ⟨Nat.le_of_ble_eq_true rfl, Nat.le_of_ble_eq_true rfl⟩) hH hS (hd_recv C0.hK hH rfl hB) rfl hl.1 rfl (lv_room (Nat.le_of_ble_eq_true rfl)) d_B_box_2 ⟨Nat.zero_le _, Nat.zero_le _⟩) ?_
  refine lv_astore_n (lv' := [(3, .ref xk), (0, .ref x), (1, .int n), (2, .int z)]) hx hb d_B_box_5 rfl hl (by decide) rfl (fun ls hl => ?_)
  refine lv_iload_n hx hb d_B_box_6 rfl (lv_at hl 3 rfl) ?_
  refine pu_n (runS C0 (k_B_requireBound l G w z hp) (cs_B_122 C0 ⟨Nat.le_of_ble_eq_true rfl, Nat.le_of_ble_eq_true rfl⟩) hH hS rfl hl.1 rfl (lv_room (Nat.le_of_ble_eq_true rfl)) d_B_box_7 ⟨Nat.zero_le _, Nat.zero_le _⟩) ?_
  refine lv_aload_n hx hb d_B_box_10 rfl (lv_at hl 0 rfl) ?_
  refine lv_iload_n hx hb d_B_box_11 rfl (lv_at hl 3 rfl) ?_
  refine pu_v (runVN C0 (k_X_bound l G w z hxw) (cs_B_134 C0 ⟨Nat.le_of_ble_eq_true rfl, Nat.le_of_ble_eq_true rfl⟩) hH hS (hd_recv C0.hK hH rfl hxw) rfl hl.1 rfl (lv_room (Nat.le_of_ble_eq_true rfl)) d_B_box_12 ⟨Nat.zero_le _, Nat.zero_le _⟩) ?_
  exact W.iret hx hb hr (fun t ht _ => ⟨rfl, ht⟩) (fun _ h => by cases h) d_B_box_15 (hlocks := C0.2.2.2.2.2.2)

set_option maxHeartbeats 4000000 in
set_option maxRecDepth 100000 in
theorem t_B_box0 (l : Launch) (hlt : l.stackTraces = false) (G : Gl) (w : World) {x L E F Gd cF : Nat} {bs : List Bx} {rs : List Int32} (hD : DAt G w x L E F Gd bs rs cF) (n : Int32) (k : Nat) (z : Int32) (hs : Srt bs) (hk : Lb bs n k) (h : ¬ ∃ h : k < bs.length, bs[k].1 = n) :
    ThM l y_B_box ws_B_box 7 G w [.ref x, .int n, .int z] "java/lang/IndexOutOfBoundsException" := by
  refine th_ent (by decide +kernel) (Nat.le_of_ble_eq_true rfl) (fun p e s m below meth c ls C0 ht hH hl => ?_)
  have hx := C0.1
  have hb := C0.2.1
  have hS : va_S (gA G) s.heap s.heap [] := va_S.rf
  have hl : lv_has ls 4 [(0, .ref x), (1, .int n), (2, .int z)] := hl
  obtain ⟨hB, ⟨N, f, md, hLs, hN0⟩, ⟨g, hF, hg⟩, ⟨cG, d, hGd, hcG⟩, hc1, hc2, hc3⟩ := id hD
  obtain ⟨hL1, hL2, hL3, hL4, hL5⟩ := id hLs
  refine lv_aload_n hx hb d_B_box_0 rfl (lv_at hl 0 rfl) ?_
  refine lv_iload_n hx hb d_B_box_1 rfl (lv_at hl 1 rfl) ?_
  exact th_out ht C0.2.2.2.2.2.2 (xrunV C0 (t_B_requireBox l hlt G w n k hB hLs hs hk h) (cs_B_118 C0 ⟨by decide, by decide⟩) hH hS (hd_recv C0.hK hH rfl hB) rfl hl.1 rfl (lv_room (Nat.le_of_ble_eq_true rfl)) d_B_box_2 ⟨Nat.le_refl _, Nat.le_refl _⟩)

set_option maxHeartbeats 4000000 in
set_option maxRecDepth 100000 in
theorem t_B_box1 (l : Launch) (hlt : l.stackTraces = false) (G : Gl) (w : World) {x L E F Gd cF : Nat} {bs : List Bx} {rs : List Int32} (hD : DAt G w x L E F Gd bs rs cF) (n : Int32) (k : Nat) (z : Int32) (hs : Srt bs) (hk : Lb bs n k) {b : Bx} (hb9 : bs[k]? = some b) (hn9 : b.1 = n) (hp : ¬ okW z) :
    ThM l y_B_box ws_B_box 7 G w [.ref x, .int n, .int z] "java/lang/IndexOutOfBoundsException" := by
  refine th_ent (by decide +kernel) (Nat.le_of_ble_eq_true rfl) (fun p e s m below meth c ls C0 ht hH hl => ?_)
  have hx := C0.1
  have hb := C0.2.1
  have hS : va_S (gA G) s.heap s.heap [] := va_S.rf
  have hl : lv_has ls 4 [(0, .ref x), (1, .int n), (2, .int z)] := hl
  obtain ⟨hB, ⟨N, f, md, hLs, hN0⟩, ⟨g, hF, hg⟩, ⟨cG, d, hGd, hcG⟩, hc1, hc2, hc3⟩ := id hD
  obtain ⟨hL1, hL2, hL3, hL4, hL5⟩ := id hLs
  obtain ⟨hk1, rfl⟩ := List.getElem?_eq_some_iff.mp hb9
  obtain ⟨xk, hxk, hxw⟩ := hL5 k hk1
  refine lv_aload_n hx hb d_B_box_0 rfl (lv_at hl 0 rfl) ?_
  refine lv_iload_n hx hb d_B_box_1 rfl (lv_at hl 1 rfl) ?_
  refine pu_v (runV C0 (k_B_requireBox l G w n k xk hB hLs hs hk ⟨hk1, hn9⟩ hxk) (cs_B_118 C0 ⟨Nat.le_of_ble_eq_true rfl, Nat.le_of_ble_eq_true rfl⟩) hH hS (hd_recv C0.hK hH rfl hB) rfl hl.1 rfl (lv_room (Nat.le_of_ble_eq_true rfl)) d_B_box_2 ⟨Nat.zero_le _, Nat.zero_le _⟩) ?_
  refine lv_astore_n (lv' := [(3, .ref xk), (0, .ref x), (1, .int n), (2, .int z)]) hx hb d_B_box_5 rfl hl (by decide) rfl (fun ls hl => ?_)
  refine lv_iload_n hx hb d_B_box_6 rfl (lv_at hl 3 rfl) ?_
  exact th_out ht C0.2.2.2.2.2.2 (xrunS C0 (t_B_requireBound l hlt G w z hp) (cs_B_122 C0 ⟨by decide, by decide⟩) hH hS rfl hl.1 rfl (lv_room (Nat.le_of_ble_eq_true rfl)) d_B_box_7 ⟨Nat.le_refl _, Nat.le_refl _⟩)

set_option maxHeartbeats 4000000 in
set_option maxRecDepth 100000 in
theorem k_B_result (l : Launch) (G : Gl) (w : World) {x L E F Gd cF : Nat} {bs : List Bx} {rs : List Int32} (hD : DAt G w x L E F Gd bs rs cF) {i : Nat} (hi : i < rs.length) :
    PuM l y_B_result ws_B_result 0 G w [.ref x, .int (nI i)] (some (.int rs[i])) := by
  refine met_ent (by decide +kernel) (Nat.le_of_ble_eq_true rfl) (fun p e s m below meth c ls C0 hr hin hH hl => ?_)
  have hx := C0.1
  have hb := C0.2.1
  have hS : va_S (gA G) s.heap s.heap [] := va_S.rf
  have hA : ∀ q : Nat, s.heap.size ≤ q → gA G q := fun q h => Nat.le_trans C0.ev.2.2.2.2.2.2.2.2.2.2.2.2 h
  have hl : lv_has ls 2 [(0, .ref x), (1, .int (nI i))] := hl
  obtain ⟨hB, ⟨N, f, md, hLs, hN0⟩, ⟨g, hF, hg⟩, ⟨cG, d, hGd, hcG⟩, hc1, hc2, hc3⟩ := id hD
  obtain ⟨hL1, hL2, hL3, hL4, hL5⟩ := id hLs
  refine lv_iload_n hx hb d_B_result_0 rfl (lv_at hl 1 rfl) ?_
  refine lv_if_lt (tgt := 21) hx hb d_B_result_1 (by decide) (fun c_1 => ?_) (fun c_1 => ?_)
  · exact absurd c_1 (nI_pos (by omega))
  · refine lv_iload_n hx hb d_B_result_4 rfl (lv_at hl 1 rfl) ?_
    refine lv_aload_n hx hb d_B_result_5 rfl (lv_at hl 0 rfl) ?_
    refine gf_B_20 C0 hH hB rfl d_B_result_6 ?_
    refine lv_icmp_ge (tgt := 21) hx hb d_B_result_9 (by decide) (fun c_9 => ?_) (fun c_9 => ?_)
    · exact absurd (nI_lt hi (by omega)) (Int32.not_lt.mpr c_9)
    · refine lv_iload_n hx hb d_B_result_12 rfl (lv_at hl 1 rfl) ?_
      refine lv_aload_n hx hb d_B_result_13 rfl (lv_at hl 0 rfl) ?_
      refine gf_B_16 C0 hH hB rfl d_B_result_14 ?_
      refine hd_alen hx hb C0.hK hH 0 hF rfl (v := nI cF) rfl d_B_result_17 ?_
      refine lv_icmp_lt (tgt := 31) hx hb d_B_result_18 (by decide) (fun c_18 => ?_) (fun c_18 => ?_)
      · refine lv_aload_n hx hb d_B_result_31 rfl (lv_at hl 0 rfl) ?_
        refine gf_B_16 C0 hH hB rfl d_B_result_32 ?_
        refine lv_iload_n hx hb d_B_result_35 rfl (lv_at hl 1 rfl) ?_
        refine hd_iald hx hb C0.hK hH 0 hF rfl (vp_in_nI (by omega) (by omega)) d_B_result_36 ?_
        rw [nI_clamp (by omega)]
        exact W.iret hx hb hr (fun t ht _ => ⟨by rw [hg i hi], ht⟩) (fun _ h => by cases h) d_B_result_37 (hlocks := C0.2.2.2.2.2.2)
      · exact absurd (nI_lt (show i < cF by omega) (by omega)) c_18

set_option maxHeartbeats 4000000 in
set_option maxRecDepth 100000 in
theorem t_B_result (l : Launch) (hlt : l.stackTraces = false) (G : Gl) (w : World) {x L E F Gd cF : Nat} {bs : List Bx} {rs : List Int32} (hD : DAt G w x L E F Gd bs rs cF) (i : Int32) (h : ¬ (0 ≤ i ∧ i < nI rs.length)) :
    ThM l y_B_result ws_B_result 7 G w [.ref x, .int i] "java/lang/IndexOutOfBoundsException" := by
  refine th_ent (by decide +kernel) (Nat.le_of_ble_eq_true rfl) (fun p e s m below meth c ls C0 ht hH hl => ?_)
  have hx := C0.1
  have hb := C0.2.1
  have hS : va_S (gA G) s.heap s.heap [] := va_S.rf
  have hl : lv_has ls 2 [(0, .ref x), (1, .int i)] := hl
  obtain ⟨hB, ⟨N, f, md, hLs, hN0⟩, ⟨g, hF, hg⟩, ⟨cG, d, hGd, hcG⟩, hc1, hc2, hc3⟩ := id hD
  obtain ⟨hL1, hL2, hL3, hL4, hL5⟩ := id hLs
  refine lv_iload_n hx hb d_B_result_0 rfl (lv_at hl 1 rfl) ?_
  refine lv_if_lt (tgt := 21) hx hb d_B_result_1 (by decide) (fun c_1 => ?_) (fun c_1 => ?_)
  · exact th_throw (text := "no such place in the result") hlt C0 (by decide +kernel) mw_154 mw_9 at_io og_io (by decide +kernel) hl.1 d_B_result_21 d_B_result_24 d_B_result_25 d_B_result_27 d_B_result_30 ht (by decide)
  · refine lv_iload_n hx hb d_B_result_4 rfl (lv_at hl 1 rfl) ?_
    refine lv_aload_n hx hb d_B_result_5 rfl (lv_at hl 0 rfl) ?_
    refine gf_B_20 C0 hH hB rfl d_B_result_6 ?_
    refine lv_icmp_ge (tgt := 21) hx hb d_B_result_9 (by decide) (fun c_9 => ?_) (fun c_9 => ?_)
    · exact th_throw (text := "no such place in the result") hlt C0 (by decide +kernel) mw_154 mw_9 at_io og_io (by decide +kernel) hl.1 d_B_result_21 d_B_result_24 d_B_result_25 d_B_result_27 d_B_result_30 ht (by decide)
    · refine lv_iload_n hx hb d_B_result_12 rfl (lv_at hl 1 rfl) ?_
      refine lv_aload_n hx hb d_B_result_13 rfl (lv_at hl 0 rfl) ?_
      refine gf_B_16 C0 hH hB rfl d_B_result_14 ?_
      refine hd_alen hx hb C0.hK hH 0 hF rfl (v := nI cF) rfl d_B_result_17 ?_
      refine lv_icmp_lt (tgt := 31) hx hb d_B_result_18 (by decide) (fun c_18 => ?_) (fun c_18 => ?_)
      · exact absurd ⟨Int32.not_lt.mp c_1, Int32.not_le.mp c_9⟩ h
      · exact th_throw (text := "no such place in the result") hlt C0 (by decide +kernel) mw_154 mw_9 at_io og_io (by decide +kernel) hl.1 d_B_result_21 d_B_result_24 d_B_result_25 d_B_result_27 d_B_result_30 ht (by decide)

set_option maxHeartbeats 4000000 in
set_option maxRecDepth 100000 in
theorem k_B_count (l : Launch) (G : Gl) (w : World) {x L E F Gd cF : Nat} {bs : List Bx} {rs : List Int32} (hD : DAt G w x L E F Gd bs rs cF) (k : Int32) :
    PuM l y_B_count ws_B_count 1 G w [.ref x, .int k] (some (.int (if k = 0 then nI bs.length else if k = 1 then nI rs.length else -1))) := by
  refine met_ent (by decide +kernel) (Nat.le_of_ble_eq_true rfl) (fun p e s m below meth c ls C0 hr hin hH hl => ?_)
  have hx := C0.1
  have hb := C0.2.1
  have hS : va_S (gA G) s.heap s.heap [] := va_S.rf
  have hl : lv_has ls 2 [(0, .ref x), (1, .int k)] := hl
  obtain ⟨hB, ⟨N, f, md, hLs, hN0⟩, ⟨g, hF, hg⟩, ⟨cG, d, hGd, hcG⟩, hc1, hc2, hc3⟩ := id hD
  obtain ⟨hL1, hL2, hL3, hL4, hL5⟩ := id hLs
  refine lv_iload_n hx hb d_B_count_0 rfl (lv_at hl 1 rfl) ?_
  by_cases h0 : k = 0
  · subst h0
    refine lv_lookup (off := 27) (tgt := 28) hx hb d_B_count_1 (by decide) (by decide) (by decide) ?_
    refine lv_aload_n hx hb d_B_count_28 rfl (lv_at hl 0 rfl) ?_
    refine gf_B_10 C0 hH hB rfl d_B_count_29 ?_
    refine pu_v (runV C0 (k_A_size l G w hL1) (cs_B_61 C0 ⟨Nat.le_of_ble_eq_true rfl, Nat.le_of_ble_eq_true rfl⟩) hH hS (hd_recv C0.hK hH rfl hL1) rfl hl.1 rfl (lv_room (Nat.le_of_ble_eq_true rfl)) d_B_count_32 ⟨Nat.zero_le _, Nat.zero_le _⟩) ?_
    exact W.iret hx hb hr (fun t ht _ => ⟨rfl, ht⟩) (fun _ h => by cases h) d_B_count_35 (hlocks := C0.2.2.2.2.2.2)
  by_cases h1 : k = 1
  · subst h1
    refine lv_lookup (off := 35) (tgt := 36) hx hb d_B_count_1 (by decide) (by decide) (by decide) ?_
    refine lv_aload_n hx hb d_B_count_36 rfl (lv_at hl 0 rfl) ?_
    refine gf_B_20 C0 hH hB rfl d_B_count_37 ?_
    exact W.iret hx hb hr (fun t ht _ => ⟨rfl, ht⟩) (fun _ h => by cases h) d_B_count_40 (hlocks := C0.2.2.2.2.2.2)
  refine lv_lookup (off := 40) (tgt := 41) hx hb d_B_count_1 (by decide) (by have a0 := tIne h0; have a1 := tIne h1; rw [tI0] at a0; rw [tI1] at a1; simp only [Op.lookupswitch.offset]; rw [if_neg (fun h => a0 h.symm), if_neg (fun h => a1 h.symm)]) (by decide) ?_
  refine lv_iconst (v := (-1)) hx hb d_B_count_41 (by decide) ?_
  exact W.iret hx hb hr (fun t ht _ => ⟨by rw [if_neg h0, if_neg h1], ht⟩) (fun _ h => by cases h) d_B_count_42 (hlocks := C0.2.2.2.2.2.2)

set_option maxHeartbeats 4000000 in
set_option maxRecDepth 100000 in
theorem k_B_bounds (l : Launch) (G : Gl) (w : World) {x L E F Gd cF : Nat} {b : Bx} {bt : List Bx} {rs : List Int32} (hD : DAt G w x L E F Gd (b :: bt) rs cF) (hln : (b :: bt).length ≤ 4096) (z : Int32) (hz : okW z) :
    PuM l y_B_bounds ws_B_bounds 4 G w [.ref x, .int z] (some (.int (bdsF z (bnd b z) bt))) := by
  refine met_ent (by decide +kernel) (Nat.le_of_ble_eq_true rfl) (fun p e s m below meth c ls C0 hr hin hH hl => ?_)
  have hx := C0.1
  have hb := C0.2.1
  have hS : va_S (gA G) s.heap s.heap [] := va_S.rf
  have hl : lv_has ls 5 [(0, .ref x), (1, .int z)] := hl
  obtain ⟨hB, ⟨N, f, md, hLs, hN0⟩, ⟨g, hF, hg⟩, ⟨cG, d, hGd, hcG⟩, hc1, hc2, hc3⟩ := id hD
  obtain ⟨hL1, hL2, hL3, hL4, hL5⟩ := id hLs
  have hpos : 0 < (b :: bt).length := by simp
  refine lv_iload_n hx hb d_B_bounds_0 rfl (lv_at hl 1 rfl) ?_
  refine pu_n (runS C0 (k_B_requireBound l G w z hz) (cs_B_122 C0 ⟨Nat.le_of_ble_eq_true rfl, Nat.le_of_ble_eq_true rfl⟩) hH hS rfl hl.1 rfl (lv_room (Nat.le_of_ble_eq_true rfl)) d_B_bounds_1 ⟨Nat.zero_le _, Nat.zero_le _⟩) ?_
  refine lv_aload_n hx hb d_B_bounds_4 rfl (lv_at hl 0 rfl) ?_
  refine gf_B_10 C0 hH hB rfl d_B_bounds_5 ?_
  refine pu_v (runV C0 (k_A_isEmpty l G w hL1) (cs_B_125 C0 ⟨Nat.le_of_ble_eq_true rfl, Nat.le_of_ble_eq_true rfl⟩) hH hS (hd_recv C0.hK hH rfl hL1) rfl hl.1 rfl (lv_room (Nat.le_of_ble_eq_true rfl)) d_B_bounds_8 ⟨Nat.zero_le _, Nat.zero_le _⟩) ?_
  refine lv_if_eq (tgt := 24) hx hb d_B_bounds_11 (by decide) (fun c_11 => ?_) (fun c_11 => ?_)
  · refine lv_aload_n hx hb d_B_bounds_24 rfl (lv_at hl 0 rfl) ?_
    refine gf_B_10 C0 hH hB rfl d_B_bounds_25 ?_
    refine lv_iconst (v := 0) hx hb d_B_bounds_28 (by decide) ?_
    rw [show (0 : Int32) = nI 0 from nI_0.symm]
    obtain ⟨x0, hf_x0, h_x0⟩ := hL5 0 (by simp)
    refine pu_v (runV C0 (k_A_get l G w hL1 (hLs.arr (by omega)) (i := 0) (by omega) hL2 (by omega) hf_x0) (cs_B_75 C0 ⟨Nat.le_of_ble_eq_true rfl, Nat.le_of_ble_eq_true rfl⟩) hH hS (hd_recv C0.hK hH rfl hL1) rfl hl.1 rfl (lv_room (Nat.le_of_ble_eq_true rfl)) d_B_bounds_29 ⟨Nat.zero_le _, Nat.zero_le _⟩) ?_
    refine va_castY hx hb C0.2.2.2.1 (C0.2.2.2.2.1 _ mw_104) (C0.ev.2.2.2.2.2.2.1 (Cond.castable "BoxDrawer$Box" "BoxDrawer$Box") (by decide +kernel)) (hd_recv C0.hK hH rfl h_x0) d_B_bounds_32 ?_
    refine lv_iload_n hx hb d_B_bounds_35 rfl (lv_at hl 1 rfl) ?_
    refine pu_v (runVN C0 (k_X_bound l G w z h_x0) (cs_B_134 C0 ⟨Nat.le_of_ble_eq_true rfl, Nat.le_of_ble_eq_true rfl⟩) hH hS (hd_recv C0.hK hH rfl h_x0) rfl hl.1 rfl (lv_room (Nat.le_of_ble_eq_true rfl)) d_B_bounds_36 ⟨Nat.zero_le _, Nat.zero_le _⟩) ?_
    refine lv_istore_n (lv' := [(2, .int (bnd b z)), (0, .ref x), (1, .int z)]) hx hb d_B_bounds_39 rfl hl (by decide) rfl (fun ls hl => ?_)
    refine lv_iconst (v := 1) hx hb d_B_bounds_40 (by decide) ?_
    refine lv_istore_n (lv' := [(3, .int 1), (2, .int (bnd b z)), (0, .ref x), (1, .int z)]) hx hb d_B_bounds_41 rfl hl (by decide) rfl (fun ls hl => ?_)
    have loop : ∀ (u j : Nat) (v : Int32), j + u = (b :: bt).length → 1 ≤ j → bdsF z v ((b :: bt).drop j) = bdsF z (bnd b z) bt → ∀ ls : Array Slot, lv_has ls 5 [(0, .ref x), (1, .int z), (2, .int v), (3, .int (nI j))] → W p l e (rmK 4 0 0) s m [.ref x, .int z].toArray below meth c s.heap [] 0 0 (MQ below (PuQ (some (.int (bdsF z (bnd b z) bt)))) [.ref x, .int z].toArray s 0 0 (fun _ => False)) (F0 m 42 ls []) := by
      intro u
      induction u with
      | zero =>
        intro j v hj h1 hv ls hl
        refine lv_iload_n hx hb d_B_bounds_42 rfl (lv_at hl 3 rfl) ?_
        refine lv_aload_n hx hb d_B_bounds_43 rfl (lv_at hl 0 rfl) ?_
        refine gf_B_10 C0 hH hB rfl d_B_bounds_44 ?_
        refine pu_v (runV C0 (k_A_size l G w hL1) (cs_B_61 C0 ⟨Nat.le_of_ble_eq_true rfl, Nat.le_of_ble_eq_true rfl⟩) hH hS (hd_recv C0.hK hH rfl hL1) rfl hl.1 rfl (lv_room (Nat.le_of_ble_eq_true rfl)) d_B_bounds_47 ⟨Nat.zero_le _, Nat.zero_le _⟩) ?_
        refine lv_icmp_ge (tgt := 99) hx hb d_B_bounds_50 (by decide) (fun c_50 => ?_) (fun c_50 => ?_)
        · refine lv_iload_n hx hb d_B_bounds_99 rfl (lv_at hl 2 rfl) ?_
          exact W.iret hx hb hr (fun t ht _ => ⟨by rw [← hv, List.drop_eq_nil_of_le (by omega)]; rfl, ht⟩) (fun _ h => by cases h) d_B_bounds_100 (hlocks := C0.2.2.2.2.2.2)
        · exact absurd (nI_le (show (b :: bt).length ≤ j by omega) (by omega)) c_50
      | succ u ih =>
        intro j v hj h1 hv ls hl
        refine lv_iload_n hx hb d_B_bounds_42 rfl (lv_at hl 3 rfl) ?_
        refine lv_aload_n hx hb d_B_bounds_43 rfl (lv_at hl 0 rfl) ?_
        refine gf_B_10 C0 hH hB rfl d_B_bounds_44 ?_
        refine pu_v (runV C0 (k_A_size l G w hL1) (cs_B_61 C0 ⟨Nat.le_of_ble_eq_true rfl, Nat.le_of_ble_eq_true rfl⟩) hH hS (hd_recv C0.hK hH rfl hL1) rfl hl.1 rfl (lv_room (Nat.le_of_ble_eq_true rfl)) d_B_bounds_47 ⟨Nat.zero_le _, Nat.zero_le _⟩) ?_
        refine lv_icmp_ge (tgt := 99) hx hb d_B_bounds_50 (by decide) (fun c_50 => ?_) (fun c_50 => ?_)
        · exact absurd c_50 (Int32.not_le.mpr (nI_lt (show j < (b :: bt).length by omega) (by omega)))
        · have hjl : j < (b :: bt).length := by omega
          refine lv_aload_n hx hb d_B_bounds_53 rfl (lv_at hl 0 rfl) ?_
          refine gf_B_10 C0 hH hB rfl d_B_bounds_54 ?_
          refine lv_iload_n hx hb d_B_bounds_57 rfl (lv_at hl 3 rfl) ?_
          obtain ⟨xj, hf_xj, h_xj⟩ := hL5 j (hjl)
          refine pu_v (runV C0 (k_A_get l G w hL1 (hLs.arr (by omega)) (i := j) (by omega) hL2 (by omega) hf_xj) (cs_B_75 C0 ⟨Nat.le_of_ble_eq_true rfl, Nat.le_of_ble_eq_true rfl⟩) hH hS (hd_recv C0.hK hH rfl hL1) rfl hl.1 rfl (lv_room (Nat.le_of_ble_eq_true rfl)) d_B_bounds_58 ⟨Nat.zero_le _, Nat.zero_le _⟩) ?_
          refine va_castY hx hb C0.2.2.2.1 (C0.2.2.2.2.1 _ mw_104) (C0.ev.2.2.2.2.2.2.1 (Cond.castable "BoxDrawer$Box" "BoxDrawer$Box") (by decide +kernel)) (hd_recv C0.hK hH rfl h_xj) d_B_bounds_61 ?_
          refine lv_iload_n hx hb d_B_bounds_64 rfl (lv_at hl 1 rfl) ?_
          refine pu_v (runVN C0 (k_X_bound l G w z h_xj) (cs_B_134 C0 ⟨Nat.le_of_ble_eq_true rfl, Nat.le_of_ble_eq_true rfl⟩) hH hS (hd_recv C0.hK hH rfl h_xj) rfl hl.1 rfl (lv_room (Nat.le_of_ble_eq_true rfl)) d_B_bounds_65 ⟨Nat.zero_le _, Nat.zero_le _⟩) ?_
          refine lv_istore (lv' := [(4, .int (bnd (b :: bt)[j] z)), (0, .ref x), (1, .int z), (2, .int v), (3, .int (nI j))]) hx hb d_B_bounds_68 hl (by decide) rfl (fun ls hl => ?_)
          refine lv_iload_n hx hb d_B_bounds_70 rfl (lv_at hl 2 rfl) ?_
          refine pu_v (runS C0 (k_B_isLeast l G w z) (cs_B_137 C0 ⟨Nat.le_of_ble_eq_true rfl, Nat.le_of_ble_eq_true rfl⟩) hH hS rfl hl.1 rfl (lv_room (Nat.le_of_ble_eq_true rfl)) d_B_bounds_71 ⟨Nat.zero_le _, Nat.zero_le _⟩) ?_
          refine lv_if_eq (tgt := 86) hx hb d_B_bounds_74 (by decide) (fun c_74 => ?_) (fun c_74 => ?_)
          · have c_74 : ¬ (z = 0 ∨ z = 1) := fun h => absurd ((b01_t h).symm.trans c_74) (by decide)
            refine lv_iload_n hx hb d_B_bounds_86 rfl (lv_at hl 3 rfl) ?_
            refine lv_iload hx hb d_B_bounds_87 (lv_at hl 0 rfl) ?_
            refine va_mmax hx hb (C0.2.2.1.trans hl.1.symm) C0.2.2.2.1 (C0.2.2.2.2.1 _ mw_118) (C0.2.2.2.2.1 _ mw_119) (C0.2.2.2.2.1 _ mw_19) (C0.2.2.2.2.1 _ mw_120) (Nat.le_of_ble_eq_true rfl) (Nat.le_of_ble_eq_true rfl) (Nat.zero_le _) (Nat.zero_le _) d_B_bounds_89 ?_
            refine lv_istore_n (lv' := [(2, .int (if v < (bnd (b :: bt)[j] z) then (bnd (b :: bt)[j] z) else v)), (4, .int (bnd (b :: bt)[j] z)), (0, .ref x), (1, .int z), (3, .int (nI j))]) hx hb d_B_bounds_92 rfl hl (by decide) rfl (fun ls hl => ?_)
            obtain ⟨y_1, ey_1⟩ : ∃ z : Int32, z = (nI j) + 1 := ⟨_, rfl⟩
            refine lv_iinc (v := y_1) (lv' := [(3, .int y_1), (2, .int (if v < (bnd (b :: bt)[j] z) then (bnd (b :: bt)[j] z) else v)), (4, .int (bnd (b :: bt)[j] z)), (0, .ref x), (1, .int z)]) hx hb d_B_bounds_93 hl (k := 4) rfl (by rw [ey_1]; rfl) (by decide) rfl (fun ls hl => ?_)
            refine lv_goto (tgt := 42) hx hb d_B_bounds_96 (by decide) ?_
            rw [show y_1 = nI (j + 1) from by rw [ey_1]; exact nI_1 j] at hl
            exact ih (j + 1) _ (by omega) (by omega) (by rw [← hv, List.drop_eq_getElem_cons hjl]; show _ = bdsF z (mmx z v (bnd (b :: bt)[j] z)) _; unfold mmx; rw [if_neg c_74]) ls (lv_sub hl [3, 4, 1, 0] rfl)
          · have c_74 : z = 0 ∨ z = 1 := Classical.byContradiction (fun h => c_74 (b01_f h))
            refine lv_iload_n hx hb d_B_bounds_77 rfl (lv_at hl 3 rfl) ?_
            refine lv_iload hx hb d_B_bounds_78 (lv_at hl 0 rfl) ?_
            refine va_mmin hx hb (C0.2.2.1.trans hl.1.symm) C0.2.2.2.1 (C0.2.2.2.2.1 _ mw_121) (C0.2.2.2.2.1 _ mw_122) (C0.2.2.2.2.1 _ mw_19) (C0.2.2.2.2.1 _ mw_123) (Nat.le_of_ble_eq_true rfl) (Nat.le_of_ble_eq_true rfl) (Nat.zero_le _) (Nat.zero_le _) d_B_bounds_80 ?_
            refine lv_goto (tgt := 92) hx hb d_B_bounds_83 (by decide) ?_
            refine lv_istore_n (lv' := [(2, .int (if (bnd (b :: bt)[j] z) < v then (bnd (b :: bt)[j] z) else v)), (4, .int (bnd (b :: bt)[j] z)), (0, .ref x), (1, .int z), (3, .int (nI j))]) hx hb d_B_bounds_92 rfl hl (by decide) rfl (fun ls hl => ?_)
            obtain ⟨y_2, ey_2⟩ : ∃ z : Int32, z = (nI j) + 1 := ⟨_, rfl⟩
            refine lv_iinc (v := y_2) (lv' := [(3, .int y_2), (2, .int (if (bnd (b :: bt)[j] z) < v then (bnd (b :: bt)[j] z) else v)), (4, .int (bnd (b :: bt)[j] z)), (0, .ref x), (1, .int z)]) hx hb d_B_bounds_93 hl (k := 4) rfl (by rw [ey_2]; rfl) (by decide) rfl (fun ls hl => ?_)
            refine lv_goto (tgt := 42) hx hb d_B_bounds_96 (by decide) ?_
            rw [show y_2 = nI (j + 1) from by rw [ey_2]; exact nI_1 j] at hl
            exact ih (j + 1) _ (by omega) (by omega) (by rw [← hv, List.drop_eq_getElem_cons hjl]; show _ = bdsF z (mmx z v (bnd (b :: bt)[j] z)) _; unfold mmx; rw [if_pos c_74]) ls (lv_sub hl [3, 4, 1, 0] rfl)
    exact loop bt.length 1 (bnd b z) (by simp; omega) (Nat.le_refl _) rfl ls (lv_sub hl [2, 3, 1, 0] rfl)
  · exact absurd (if_neg (fun h => absurd ((nI_eq (a := (b :: bt).length) (b := 0) (by omega) (by omega)).mp h) (by simp))) c_11

set_option maxHeartbeats 4000000 in
set_option maxRecDepth 100000 in
theorem t_B_bounds0 (l : Launch) (hlt : l.stackTraces = false) (G : Gl) (w : World) {x L E F Gd cF : Nat} {bs : List Bx} {rs : List Int32} (hD : DAt G w x L E F Gd bs rs cF) (z : Int32) (hz : ¬ okW z) :
    ThM l y_B_bounds ws_B_bounds 7 G w [.ref x, .int z] "java/lang/IndexOutOfBoundsException" := by
  refine th_ent (by decide +kernel) (Nat.le_of_ble_eq_true rfl) (fun p e s m below meth c ls C0 ht hH hl => ?_)
  have hx := C0.1
  have hb := C0.2.1
  have hS : va_S (gA G) s.heap s.heap [] := va_S.rf
  have hl : lv_has ls 5 [(0, .ref x), (1, .int z)] := hl
  refine lv_iload_n hx hb d_B_bounds_0 rfl (lv_at hl 1 rfl) ?_
  exact th_out ht C0.2.2.2.2.2.2 (xrunS C0 (t_B_requireBound l hlt G w z hz) (cs_B_122 C0 ⟨by decide, by decide⟩) hH hS rfl hl.1 rfl (lv_room (Nat.le_of_ble_eq_true rfl)) d_B_bounds_1 ⟨Nat.le_refl _, Nat.le_refl _⟩)

set_option maxHeartbeats 4000000 in
set_option maxRecDepth 100000 in
theorem t_B_bounds1 (l : Launch) (hlt : l.stackTraces = false) (G : Gl) (w : World) {x L E F Gd cF : Nat} {rs : List Int32} (hD : DAt G w x L E F Gd [] rs cF) (z : Int32) (hz : okW z) :
    ThM l y_B_bounds ws_B_bounds 7 G w [.ref x, .int z] "java/lang/IllegalStateException" := by
  refine th_ent (by decide +kernel) (Nat.le_of_ble_eq_true rfl) (fun p e s m below meth c ls C0 ht hH hl => ?_)
  have hx := C0.1
  have hb := C0.2.1
  have hS : va_S (gA G) s.heap s.heap [] := va_S.rf
  have hl : lv_has ls 5 [(0, .ref x), (1, .int z)] := hl
  obtain ⟨hB, ⟨N, f, md, hLs, hN0⟩, ⟨g, hF, hg⟩, ⟨cG, d, hGd, hcG⟩, hc1, hc2, hc3⟩ := id hD
  obtain ⟨hL1, hL2, hL3, hL4, hL5⟩ := id hLs
  refine lv_iload_n hx hb d_B_bounds_0 rfl (lv_at hl 1 rfl) ?_
  refine pu_n (runS C0 (k_B_requireBound l G w z hz) (cs_B_122 C0 ⟨Nat.le_of_ble_eq_true rfl, Nat.le_of_ble_eq_true rfl⟩) hH hS rfl hl.1 rfl (lv_room (Nat.le_of_ble_eq_true rfl)) d_B_bounds_1 ⟨Nat.zero_le _, Nat.zero_le _⟩) ?_
  refine lv_aload_n hx hb d_B_bounds_4 rfl (lv_at hl 0 rfl) ?_
  refine gf_B_10 C0 hH hB rfl d_B_bounds_5 ?_
  refine pu_v (runV C0 (k_A_isEmpty l G w hL1) (cs_B_125 C0 ⟨Nat.le_of_ble_eq_true rfl, Nat.le_of_ble_eq_true rfl⟩) hH hS (hd_recv C0.hK hH rfl hL1) rfl hl.1 rfl (lv_room (Nat.le_of_ble_eq_true rfl)) d_B_bounds_8 ⟨Nat.zero_le _, Nat.zero_le _⟩) ?_
  refine lv_if_eq (tgt := 24) hx hb d_B_bounds_11 (by decide) (fun c_11 => ?_) (fun c_11 => ?_)
  · exact absurd c_11 (by first | decide | simp [nI_0])
  · exact th_throw (text := "no boxes") hlt C0 (by decide +kernel) mw_650 mw_24 at_is og_is (by decide +kernel) hl.1 d_B_bounds_14 d_B_bounds_17 d_B_bounds_18 d_B_bounds_20 d_B_bounds_23 ht (by decide)
end
section
/-! put, take, clear -/
def ins (bs : List Bx) (k : Nat) (b : Bx) : List Bx := bs.take k ++ b :: bs.drop k
theorem ins_len {bs : List Bx} {k : Nat} {b : Bx} (hk : k ≤ bs.length) : (ins bs k b).length = bs.length + 1 := by
  simp only [ins, List.length_append, List.length_take, List.length_cons, List.length_drop]; omega
theorem ins_at {bs : List Bx} {k : Nat} {b : Bx} (hk : k ≤ bs.length) (i : Nat) : (ins bs k b)[i]? = if i < k then bs[i]? else if i = k then some b else bs[i - 1]? := by
  unfold ins
  by_cases h1 : i < k
  · rw [if_pos h1, List.getElem?_append_left (by rw [List.length_take]; omega), List.getElem?_take, if_pos h1]
  · rw [if_neg h1, List.getElem?_append_right (by rw [List.length_take]; omega), List.length_take, Nat.min_eq_left hk]
    by_cases h2 : i = k
    · subst h2
      rw [if_pos rfl, Nat.sub_self]; rfl
    · rw [if_neg h2, show i - k = (i - 1 - k) + 1 by omega, List.getElem?_cons_succ, List.getElem?_drop, show k + (i - 1 - k) = i - 1 by omega]
theorem ls_of {bs : List Bx} {f : Nat → Option Nat} {w : World} (h : ∀ (i : Nat) (b : Bx), bs[i]? = some b → ∃ x : Nat, f i = some x ∧ w x = some (.inr (1, bxf b))) (i : Nat) (hi : i < bs.length) : ∃ x : Nat, f i = some x ∧ w x = some (.inr (1, bxf bs[i])) := h i _ (List.getElem?_eq_getElem hi)
theorem LsAt.g {G : Gl} {w : World} {L E N : Nat} {f : Nat → Option Nat} {md : Int32} {bs : List Bx} (h : LsAt G w L E N f md bs) {i : Nat} {b : Bx} (hb : bs[i]? = some b) : ∃ x : Nat, f i = some x ∧ w x = some (.inr (1, bxf b)) := by
  obtain ⟨hi, rfl⟩ := List.getElem?_eq_some_iff.mp hb
  exact h.2.2.2.2 i hi
theorem LsAt.nE {G : Gl} {w : World} {L E N : Nat} {f : Nat → Option Nat} {md : Int32} {bs : List Bx} (h : LsAt G w L E N f md bs) (h0 : w (ge0 G) = none) {a : Nat} {e : Nat × List Value} (ha : w a = some (.inr e)) : a ≠ E := by
  rcases h.2.2.2.1 with ⟨rfl, -⟩ | h1
  · exact wnf ha h0
  · exact wne ha h1 (by simp)
theorem LsAt.q {G : Gl} {w : World} {L E N : Nat} {f : Nat → Option Nat} {md : Int32} {bs : List Bx} (h : LsAt G w L E N f md bs) : ∀ j : Nat, j < bs.length → ∃ (y : Nat) (vs : List Value), f j = some y ∧ w y = some (.inr (1, vs)) := fun j hj => by
  obtain ⟨x, h1, h2⟩ := h.2.2.2.2 j hj
  exact ⟨x, _, h1, h2⟩
theorem LsAt.mono {G : Gl} {w w1 : World} {L E N : Nat} {f : Nat → Option Nat} {md : Int32} {bs : List Bx} (h : LsAt G w L E N f md bs) (hK : Kp w w1 []) : LsAt G w1 L E N f md bs := by
  obtain ⟨h1, h2, h3, h4, h5⟩ := h
  refine ⟨hK _ _ h1 (by simp), h2, h3, h4.imp id (fun h => hK _ _ h (by simp)), fun i hi => ?_⟩
  obtain ⟨x, a, b⟩ := h5 i hi
  exact ⟨x, a, hK _ _ b (by simp)⟩
theorem DAt.mono {G : Gl} {w w1 : World} {x L E F Gd cF : Nat} {bs : List Bx} {rs : List Int32} (h : DAt G w x L E F Gd bs rs cF) (hK : Kp w w1 []) : DAt G w1 x L E F Gd bs rs cF := by
  obtain ⟨hB, ⟨N, f, md, hLs, hN0⟩, ⟨g, hF, hg⟩, ⟨cG, d, hGd, hcG⟩, hc⟩ := h
  exact ⟨hK _ _ hB (by simp), ⟨N, f, md, hLs.mono hK, hN0⟩, ⟨g, hK _ _ hF (by simp), hg⟩, ⟨cG, d, hK _ _ hGd (by simp), hcG⟩, hc⟩
theorem LsAt.nA {G : Gl} {w : World} {L E N : Nat} {f : Nat → Option Nat} {md : Int32} {bs : List Bx} (h : LsAt G w L E N f md bs) (h0 : w (ge0 G) = none) {a n : Nat} {c : ClassId} {g : vp_A} (ha : w a = some (.inl (c, g))) (hg : ∀ (n : Nat) (f : Nat → Option Nat), g ≠ (n, .inr (.inr (.inr (.inr f))))) : a ≠ E := by
  rcases h.2.2.2.1 with ⟨rfl, -⟩ | h1
  · exact wnf ha h0
  · exact wne ha h1 (fun q => hg _ _ (congrArg (fun z => match z with | .inl y => y.2 | .inr _ => g) q))
theorem DAt.list {G : Gl} {w w1 : World} {x L E E1 F Gd cF N1 : Nat} {f1 : Nat → Option Nat} {md1 : Int32} {bs bs1 : List Bx} {rs : List Int32} (h : DAt G w x L E F Gd bs rs cF) (hK : Kp w w1 [L, E]) (h0 : w (ge0 G) = none) (h1 : LsAt G w1 L E1 N1 f1 md1 bs1) (h2 : (E1 = ge0 G ∧ N1 = 0) ∨ 0 < N1) : DAt G w1 x L E1 F Gd bs1 rs cF := by
  obtain ⟨hB, ⟨N, f, md, hLs, hN0⟩, ⟨g, hF, hg⟩, ⟨cG, d, hGd, hcG⟩, hc⟩ := h
  have k1 : ∀ (a b c : Nat), a ≠ b → a ≠ c → a ∉ [b, c] := fun a b c h1 h2 h => by
    rcases List.mem_cons.mp h with h | h
    · exact h1 h
    · exact h2 (List.mem_singleton.mp h)
  exact ⟨hK _ _ hB (k1 _ _ _ (wne hB hLs.1 (by simp)) (hLs.nE h0 hB)), ⟨N1, f1, md1, h1, h2⟩, ⟨g, hK _ _ hF (k1 _ _ _ (wne hF hLs.1 (by simp)) (hLs.nA (n := 0) h0 hF (fun _ _ => by simp))), hg⟩, ⟨cG, d, hK _ _ hGd (k1 _ _ _ (wne hGd hLs.1 (by simp)) (hLs.nA (n := 0) h0 hGd (fun _ _ => by simp))), hcG⟩, hc⟩
/-- the drawer behind a call -/
def DQ (G : Gl) (w w1 : World) (x L E F Gd : Nat) (bs : List Bx) (rs : List Int32) (P : Nat → Prop) : Prop :=
  ∃ E1 F1 G1 cF1 : Nat, (E1 = E ∨ w E1 = none) ∧ (F1 = F ∨ w F1 = none) ∧ (G1 = Gd ∨ w G1 = none) ∧ DAt G w1 x L E1 F1 G1 bs rs cF1 ∧ Kp w w1 [x, L, E, F, Gd] ∧ P cF1
theorem add_ls {G : Gl} {w w1 : World} {L E N N1 b k : Nat} {f : Nat → Option Nat} {md : Int32} {bs : List Bx} {bx : Bx} (h : LsAt G w L E N f md bs) (h0 : w (ge0 G) = none) (hA : AddQ G w w1 L E k bs.length b N1 f) (hb : w b = some (.inr (1, bxf bx))) (hk : k ≤ bs.length) (h1 : bs.length + 1 ≤ N1) (h2 : N1 ≤ 100000) :
    ∃ (E1 : Nat) (f1 : Nat → Option Nat) (md1 : Int32), (E1 = E ∨ w E1 = none) ∧ LsAt G w1 L E1 N1 f1 md1 (ins bs k bx) ∧ Kp w w1 [L, E] := by
  obtain ⟨E1, f1, md1, a1, a2, a3, a4, a5, a6, a7⟩ := hA
  have kp : ∀ {a : Nat} {vs : List Value}, w a = some (.inr (1, vs)) → w1 a = some (.inr (1, vs)) := fun {a vs} ha => a7 _ _ ha (fun hm => by
    rcases List.mem_cons.mp hm with q | q
    · exact wne ha h.1 (by simp) q
    · exact h.nE h0 ha (List.mem_singleton.mp q))
  refine ⟨E1, f1, md1, a6, ⟨?_, ?_, h2, Or.inr a2, ls_of (fun i c hc => ?_)⟩, a7⟩
  · rw [ins_len hk]; exact a1
  · rw [ins_len hk]; exact h1
  · rw [ins_at hk] at hc
    by_cases g1 : i < k
    · rw [if_pos g1] at hc
      obtain ⟨x, b1, b2⟩ := h.g hc
      exact ⟨x, by rw [a3 i g1]; exact b1, kp b2⟩
    · rw [if_neg g1] at hc
      by_cases g2 : i = k
      · subst g2
        rw [if_pos rfl] at hc
        cases hc
        exact ⟨b, a4, kp hb⟩
      · rw [if_neg g2] at hc
        obtain ⟨x, b1, b2⟩ := h.g hc
        have hl : i - 1 < bs.length := (List.getElem?_eq_some_iff.mp hc).1
        exact ⟨x, by rw [show i = i - 1 + 1 by omega, a5 (i - 1) (by omega) hl]; exact b1, kp b2⟩
theorem set_ls {G : Gl} {w w1 : World} {L E N b k : Nat} {f : Nat → Option Nat} {md : Int32} {bs : List Bx} {bx : Bx} (h : LsAt G w L E N f md bs) (h0 : w (ge0 G) = none) (hA : w1 = va_up w E (some (.inl (G.2.1.2.2.2, N, .inr (.inr (.inr (.inr (va_up f k (some b))))))))) (hb : w b = some (.inr (1, bxf bx))) (hk : k < bs.length) :
    LsAt G w1 L E N (va_up f k (some b)) md (bs.set k bx) ∧ Kp w w1 [L, E] := by
  have a7 : Kp w w1 [L, E] := by rw [hA]; exact Kp.up (Or.inl (by simp))
  have kp : ∀ {a : Nat} {vs : List Value}, w a = some (.inr (1, vs)) → w1 a = some (.inr (1, vs)) := fun {a vs} ha => a7 _ _ ha (fun hm => by
    rcases List.mem_cons.mp hm with q | q
    · exact wne ha h.1 (by simp) q
    · exact h.nE h0 ha (List.mem_singleton.mp q))
  refine ⟨⟨?_, by rw [List.length_set]; exact h.2.1, h.2.2.1, Or.inr (by rw [hA]; exact va_up_self _ _ _), ls_of (fun i c hc => ?_)⟩, a7⟩
  · rw [hA, va_up_ne _ _ (h.nE h0 h.1), List.length_set]; exact h.1
  · by_cases g : k = i
    · subst g
      rw [List.getElem?_set_self hk] at hc
      cases hc
      exact ⟨b, va_up_self _ _ _, kp hb⟩
    · rw [List.getElem?_set_ne g] at hc
      obtain ⟨x, b1, b2⟩ := h.g hc
      exact ⟨x, by rw [va_up_ne _ _ (fun q => g q.symm)]; exact b1, kp b2⟩
theorem rem_ls {G : Gl} {w w1 : World} {L E N k : Nat} {f : Nat → Option Nat} {md : Int32} {bs : List Bx} (h : LsAt G w L E N f md bs) (h0 : w (ge0 G) = none) (hA : RemQ G w w1 L E k bs.length N f) (hk : k < bs.length) :
    ∃ (f1 : Nat → Option Nat) (md1 : Int32), LsAt G w1 L E N f1 md1 (bs.eraseIdx k) ∧ Kp w w1 [L, E] := by
  obtain ⟨f1, md1, a1, a2, a3, a4, a7⟩ := hA
  have kp : ∀ {a : Nat} {vs : List Value}, w a = some (.inr (1, vs)) → w1 a = some (.inr (1, vs)) := fun {a vs} ha => a7 _ _ ha (fun hm => by
    rcases List.mem_cons.mp hm with q | q
    · exact wne ha h.1 (by simp) q
    · exact h.nE h0 ha (List.mem_singleton.mp q))
  have hl : (bs.eraseIdx k).length = bs.length - 1 := List.length_eraseIdx_of_lt hk
  refine ⟨f1, md1, ⟨by rw [hl]; exact a1, by rw [hl]; exact Nat.le_trans (Nat.sub_le _ _) h.2.1, h.2.2.1, Or.inr a2, ls_of (fun i c hc => ?_)⟩, a7⟩
  have hi : i < bs.length - 1 := by rw [← hl]; exact (List.getElem?_eq_some_iff.mp hc).1
  rw [List.getElem?_eraseIdx] at hc
  by_cases g : i < k
  · rw [if_pos g] at hc
    obtain ⟨x, b1, b2⟩ := h.g hc
    exact ⟨x, by rw [a3 i g]; exact b1, kp b2⟩
  · rw [if_neg g] at hc
    obtain ⟨x, b1, b2⟩ := h.g hc
    exact ⟨x, by rw [a4 i (by omega) hi]; exact b1, kp b2⟩
theorem clr_ls {G : Gl} {w w1 : World} {L E N : Nat} {f : Nat → Option Nat} {md : Int32} {bs : List Bx} (h : LsAt G w L E N f md bs) (hA : ClrQ G w w1 L E N f) : ∃ (f1 : Nat → Option Nat) (md1 : Int32), LsAt G w1 L E N f1 md1 [] ∧ Kp w w1 [L, E] := by
  obtain ⟨f1, md1, a1, a2, a7⟩ := hA
  exact ⟨f1, md1, ⟨a1, Nat.zero_le _, h.2.2.1, a2, fun i hi => absurd hi (Nat.not_lt_zero _)⟩, a7⟩
theorem DQ.of_list {G : Gl} {w w1 w2 : World} {x L E E1 F Gd cF N1 : Nat} {f1 : Nat → Option Nat} {md1 : Int32} {bs bs1 : List Bx} {rs : List Int32} (hD : DAt G w1 x L E F Gd bs rs cF) (hK0 : Kp w w1 []) (hE : E1 = E ∨ w1 E1 = none) (hK : Kp w1 w2 [L, E]) (h0 : w1 (ge0 G) = none) (h1 : LsAt G w2 L E1 N1 f1 md1 bs1) (h2 : (E1 = ge0 G ∧ N1 = 0) ∨ 0 < N1) : DQ G w w2 x L E F Gd bs1 rs (fun c => c = cF) := by
  refine ⟨E1, F, Gd, cF, hE.imp id (fun h => ?_), Or.inl rfl, Or.inl rfl, hD.list hK h0 h1 h2, ?_, rfl⟩
  · cases q : w E1 with
    | none => rfl
    | some e => rw [hK0 _ _ q (by simp)] at h; cases h
  · exact (hK0.mono (fun b hb => by cases hb)).trans hK (fun b hb => Or.inl (by
      rcases List.mem_cons.mp hb with q | q
      · simp [q]
      · simp [List.mem_singleton.mp q]))
section GE0
variable {p : Program} {s : State} {m : MethodId} {args : Array Value} {meth : Method} {c : Code} {H : Heap} {G : Gl} {cc : ByteArray} {nL : Nat} {own : String} {w : World}
theorem ge0_none (C0 : Cx G p s m args c cc nL own meth) (hH : Hw G w H) : w (ge0 G) = none := by
  obtain ⟨cell, h1, h2, h3, h4, h5, h6, h7⟩ := C0.ev.2.2.1
  cases h : w (ge0 G) with
  | none => rfl
  | some e => exact absurd (hH.inA h) h7
end GE0

set_option maxHeartbeats 4000000 in
set_option maxRecDepth 100000 in
theorem k_B_put (l : Launch) (G : Gl) (w : World) {x L E F Gd cF : Nat} {bs : List Bx} {rs : List Int32} (hD : DAt G w x L E F Gd bs rs cF) (n lx ly hx1 hy1 : Int32) (k : Nat) (hn9 : okN n) (hb9 : okB lx ly hx1 hy1) (hs : Srt bs) (hk : Lb bs n k) (hln : bs.length ≤ 4096) :
    GnI l y_B_put ws_B_put 6 2 6200 G w [.ref x, .int n, .int lx, .int ly, .int hx1, .int hy1] (fun r w1 => (r = 1 ∧ (∃ h : k < bs.length, bs[k].1 = n) ∧ DQ G w w1 x L E F Gd (bs.set k (n, lx, ly, hx1, hy1)) rs (fun c => c = cF)) ∨ (r = 0 ∧ ¬ (∃ h : k < bs.length, bs[k].1 = n) ∧ DQ G w w1 x L E F Gd (ins bs k (n, lx, ly, hx1, hy1)) rs (fun c => c = cF))) := by
  refine met_ent (by decide +kernel) (Nat.le_of_ble_eq_true rfl) (fun p e s m below meth c ls C0 hr hin hH hl => ?_)
  have hx := C0.1
  have hb := C0.2.1
  have hS : va_S (gA G) s.heap s.heap [] := va_S.rf
  have hA : ∀ q : Nat, s.heap.size ≤ q → gA G q := fun q h => Nat.le_trans C0.ev.2.2.2.2.2.2.2.2.2.2.2.2 h
  have hl : lv_has ls 8 [(0, .ref x), (1, .int n), (2, .int lx), (3, .int ly), (4, .int hx1), (5, .int hy1)] := hl
  obtain ⟨hB, ⟨N, f, md, hLs, hN0⟩, ⟨g, hF, hg⟩, ⟨cG, d, hGd, hcG⟩, hc1, hc2, hc3⟩ := id hD
  obtain ⟨hL1, hL2, hL3, hL4, hL5⟩ := id hLs
  refine lv_iload_n hx hb d_B_put_0 rfl (lv_at hl 1 rfl) ?_
  refine pu_n (runS C0 (k_B_requireNumber l G w n hn9) (cs_B_28 C0 ⟨Nat.le_of_ble_eq_true rfl, Nat.le_of_ble_eq_true rfl⟩) hH hS rfl hl.1 rfl (lv_room (Nat.le_of_ble_eq_true rfl)) d_B_put_1 ⟨by show _ ≤ 2; omega, by show _ ≤ 6200; omega⟩) ?_
  refine lv_iload_n hx hb d_B_put_4 rfl (lv_at hl 2 rfl) ?_
  refine lv_iload_n hx hb d_B_put_5 rfl (lv_at hl 3 rfl) ?_
  refine lv_iload hx hb d_B_put_6 (lv_at hl 4 rfl) ?_
  refine lv_iload hx hb d_B_put_8 (lv_at hl 5 rfl) ?_
  refine pu_n (runS C0 (k_B_requireBounds l G w lx ly hx1 hy1 hb9) (cs_B_32 C0 ⟨Nat.le_of_ble_eq_true rfl, Nat.le_of_ble_eq_true rfl⟩) hH hS rfl hl.1 rfl (lv_room (Nat.le_of_ble_eq_true rfl)) d_B_put_10 ⟨by show _ ≤ 2; omega, by show _ ≤ 6200; omega⟩) ?_
  refine hd_new (ci := 1) (fs := [.int 0, .int 0, .int 0, .int 0, .int 0]) hx hb C0.2.2.2.2.1 in_X tyX tyX_ok C0.2.2.2.1 (C0.2.2.2.2.1 _ mw_104) (C0.2.2.2.2.1 _ mw_108) (C0.2.2.2.2.1 _ mw_11) C0.hK hH hS hA rfl (fun j hj => by rcases (show j = 0 ∨ j = 1 ∨ j = 2 ∨ j = 3 ∨ j = 4 by omega) with rfl | rfl | rfl | rfl | rfl <;> rfl) (by show _ ≤ 2; omega) (by show _ ≤ 6200; omega) d_B_put_13 (fun q13 H hnq13 hH hS => ?_)
  obtain ⟨w1, ew1⟩ : ∃ z : World, z = va_up w q13 (some (.inr (1, [.int 0, .int 0, .int 0, .int 0, .int 0]))) := ⟨_, rfl⟩
  have hH : Hw G w1 H := by rw [ew1]; exact hH
  have hw1_x : w1 x = some (.inr (2, [.ref L, .ref F, .int (nI rs.length), .ref Gd])) := by rw [ew1, va_up_ne _ _ (wnf hB hnq13)]; exact hB
  have hw1_q13 : w1 q13 = some (.inr (1, [.int 0, .int 0, .int 0, .int 0, .int 0])) := by rw [ew1]; exact va_up_self _ _ _
  refine lv_dup hx hb d_B_put_16 rfl ?_
  refine lv_iload_n hx hb d_B_put_17 rfl (lv_at hl 1 rfl) ?_
  refine lv_iload_n hx hb d_B_put_18 rfl (lv_at hl 2 rfl) ?_
  refine lv_iload_n hx hb d_B_put_19 rfl (lv_at hl 3 rfl) ?_
  refine lv_iload hx hb d_B_put_20 (lv_at hl 4 rfl) ?_
  refine lv_iload hx hb d_B_put_22 (lv_at hl 5 rfl) ?_
  refine gn_v (runIN C0 (k_X_init l G w1 n lx ly hx1 hy1 hw1_q13) (cs_B_38 C0 ⟨Nat.le_of_ble_eq_true rfl, Nat.le_of_ble_eq_true rfl⟩) hH hS rfl hl.1 rfl (lv_room (Nat.le_of_ble_eq_true rfl)) d_B_put_24 ⟨by show _ ≤ 2; omega, by show _ ≤ 6200; omega⟩) hS (fun w2 H locs hp2 hH hS => ?_)
  have ew2 := hp2
  have hw2_q13 : w2 q13 = some (.inr (1, bxf (n, lx, ly, hx1, hy1))) := by rw [ew2]; exact va_up_self _ _ _
  have hK2 : Kp w w2 [] := by rw [ew2, ew1]; exact (Kp.up (Or.inr hnq13)).ups (Or.inr hnq13)
  have hD2 := hD.mono hK2
  obtain ⟨hB2, ⟨N2, f2, md2, hLs2, hN2⟩, ⟨g2, hF2, hg2⟩, ⟨cG2, d2, hGd2, hcG2⟩, hc12, hc22, hc32⟩ := id hD2
  obtain ⟨hL12, hL22, hL32, hL42, hL52⟩ := id hLs2
  have h02 := ge0_none C0 hH
  refine lv_astore (lv' := [(6, .ref q13), (0, .ref x), (1, .int n), (2, .int lx), (3, .int ly), (4, .int hx1), (5, .int hy1)]) hx hb d_B_put_27 hl (by decide) rfl (fun ls hl => ?_)
  refine lv_aload_n hx hb d_B_put_29 rfl (lv_at hl 1 rfl) ?_
  refine lv_iload_n hx hb d_B_put_30 rfl (lv_at hl 2 rfl) ?_
  refine pu_v (runV C0 (k_B_indexFor l G w2 n k hB2 hLs2 hs hk) (cs_B_41 C0 ⟨Nat.le_of_ble_eq_true rfl, Nat.le_of_ble_eq_true rfl⟩) hH hS (hd_recv C0.hK hH rfl hB2) rfl hl.1 rfl (lv_room (Nat.le_of_ble_eq_true rfl)) d_B_put_31 ⟨by show _ ≤ 2; omega, by show _ ≤ 6200; omega⟩) ?_
  refine lv_istore (lv' := [(7, .int (nI k)), (6, .ref q13), (0, .ref x), (1, .int n), (2, .int lx), (3, .int ly), (4, .int hx1), (5, .int hy1)]) hx hb d_B_put_34 hl (by decide) rfl (fun ls hl => ?_)
  refine lv_aload_n hx hb d_B_put_36 rfl (lv_at hl 2 rfl) ?_
  refine lv_iload hx hb d_B_put_37 (lv_at hl 0 rfl) ?_
  refine lv_iload_n hx hb d_B_put_39 rfl (lv_at hl 3 rfl) ?_
  refine pu_v (runV C0 (k_B_isAt l G w2 k n hk.1 hB2 hLs2) (cs_B_45 C0 ⟨Nat.le_of_ble_eq_true rfl, Nat.le_of_ble_eq_true rfl⟩) hH hS (hd_recv C0.hK hH rfl hB2) rfl hl.1 rfl (lv_room (Nat.le_of_ble_eq_true rfl)) d_B_put_40 ⟨by show _ ≤ 2; omega, by show _ ≤ 6200; omega⟩) ?_
  refine lv_if_eq (tgt := 60) hx hb d_B_put_43 (by decide) (fun c_43 => ?_) (fun c_43 => ?_)
  · have hth : ¬ (∃ h : k < bs.length, bs[k].1 = n) := fun h => absurd ((b01_t h).symm.trans c_43) (by decide)
    refine lv_aload_n hx hb d_B_put_60 rfl (lv_at hl 2 rfl) ?_
    refine gf_B_10 C0 hH hB2 rfl d_B_put_61 ?_
    refine lv_iload hx hb d_B_put_64 (lv_at hl 0 rfl) ?_
    refine lv_aload hx hb d_B_put_66 (lv_at hl 1 rfl) ?_
    rcases hN2 with ⟨hE0, hN00⟩ | hN00
    · have hk0 : k = 0 := by have := hk.1; omega
      have hlen0 : bs.length = 0 := by omega
      have hL0 : w2 L = some (.inr (0, [.int md2, .ref (ge0 G), .int (nI 0)])) := by rw [hL12, hE0, hlen0]
      rw [show nI k = nI 0 from by rw [hk0]]
      refine gn_v (runV C0 (k_A_add2 l G w2 hL0 hw2_q13) (cs_B_53 C0 ⟨Nat.le_of_ble_eq_true rfl, Nat.le_of_ble_eq_true rfl⟩) hH hS (hd_recv C0.hK hH rfl hL12) rfl hl.1 rfl (lv_room (Nat.le_of_ble_eq_true rfl)) d_B_put_68 ⟨by show _ ≤ 2; omega, by show _ ≤ 6200; omega⟩) hS (fun w3 H locs hp3 hH hS => ?_)
      have ha9 : AddQ G w2 w3 L E k bs.length q13 10 f2 := by rw [hk0, hlen0, hE0]; exact hp3 f2
      obtain ⟨E1, f9, md9, hE9, hls9, hkp9⟩ := add_ls (bx := (n, lx, ly, hx1, hy1)) hLs2 h02 ha9 hw2_q13 hk.1 (by omega) (by omega)
      refine lv_iconst (v := 0) hx hb d_B_put_71 (by decide) ?_
      refine W.widen (k := 2) (n := 6200) (by omega) (by omega) ?_
      exact W.zret hx hb hr rfl (fun t ht hW => ⟨⟨0, w3, rfl, Or.inr ⟨rfl, hth, DQ.of_list hD2 hK2 hE9 hkp9 h02 hls9 (Or.inr (by omega))⟩, Wo.at C0.ev hH hS ht hW⟩, hS.F ht⟩) hS.2.2 d_B_put_72 (hlocks := C0.2.2.2.2.2.2)
    · have hE2 : w2 E = some (.inl (G.2.1.2.2.2, N2, .inr (.inr (.inr (.inr f2))))) := hL42.elim (fun h => absurd h.2 (by omega)) id
      by_cases hroom : bs.length < N2
      · refine gn_v (runV C0 (k_A_add0 l G w2 hL12 hE2 hL22 hL32 hw2_q13 hLs2.q hk.1 hroom) (cs_B_53 C0 ⟨Nat.le_of_ble_eq_true rfl, Nat.le_of_ble_eq_true rfl⟩) hH hS (hd_recv C0.hK hH rfl hL12) rfl hl.1 rfl (lv_room (Nat.le_of_ble_eq_true rfl)) d_B_put_68 ⟨by show _ ≤ 2; omega, by show _ ≤ 6200; omega⟩) hS (fun w4 H locs hp4 hH hS => ?_)
        obtain ⟨E1, f9, md9, hE9, hls9, hkp9⟩ := add_ls (bx := (n, lx, ly, hx1, hy1)) hLs2 h02 hp4 hw2_q13 hk.1 (by omega) (by omega)
        refine lv_iconst (v := 0) hx hb d_B_put_71 (by decide) ?_
        refine W.widen (k := 2) (n := 6200) (by omega) (by omega) ?_
        exact W.zret hx hb hr rfl (fun t ht hW => ⟨⟨0, w4, rfl, Or.inr ⟨rfl, hth, DQ.of_list hD2 hK2 hE9 hkp9 h02 hls9 (Or.inr (by omega))⟩, Wo.at C0.ev hH hS ht hW⟩, hS.F ht⟩) hS.2.2 d_B_put_72 (hlocks := C0.2.2.2.2.2.2)
      · have hNe : N2 = bs.length := by omega
        refine gn_v (runV C0 (k_A_add1 l G w2 hL12 (by rw [← hNe]; exact hE2) (by omega) (by omega) hw2_q13 hLs2.q hk.1) (cs_B_53 C0 ⟨Nat.le_of_ble_eq_true rfl, Nat.le_of_ble_eq_true rfl⟩) hH hS (hd_recv C0.hK hH rfl hL12) rfl hl.1 rfl (lv_room (Nat.le_of_ble_eq_true rfl)) d_B_put_68 ⟨by show _ ≤ 2; omega, by show _ ≤ 6200; omega⟩) hS (fun w5 H locs hp5 hH hS => ?_)
        obtain ⟨E1, f9, md9, hE9, hls9, hkp9⟩ := add_ls (bx := (n, lx, ly, hx1, hy1)) hLs2 h02 hp5 hw2_q13 hk.1 (by omega) (by omega)
        refine lv_iconst (v := 0) hx hb d_B_put_71 (by decide) ?_
        refine W.widen (k := 2) (n := 6200) (by omega) (by omega) ?_
        exact W.zret hx hb hr rfl (fun t ht hW => ⟨⟨0, w5, rfl, Or.inr ⟨rfl, hth, DQ.of_list hD2 hK2 hE9 hkp9 h02 hls9 (Or.inr (by omega))⟩, Wo.at C0.ev hH hS ht hW⟩, hS.F ht⟩) hS.2.2 d_B_put_72 (hlocks := C0.2.2.2.2.2.2)
  · have hth : (∃ h : k < bs.length, bs[k].1 = n) := Classical.byContradiction (fun h => c_43 (b01_f h))
    obtain ⟨hk1, -⟩ := id hth
    obtain ⟨xk, hxk, hxw⟩ := hL52 k hk1
    refine lv_aload_n hx hb d_B_put_46 rfl (lv_at hl 2 rfl) ?_
    refine gf_B_10 C0 hH hB2 rfl d_B_put_47 ?_
    refine lv_iload hx hb d_B_put_50 (lv_at hl 0 rfl) ?_
    refine lv_aload hx hb d_B_put_52 (lv_at hl 1 rfl) ?_
    refine gn_q (runV C0 (k_A_set l G w2 hL12 (hLs2.arr (by omega)) hL22 hL32 hw2_q13 hk1 hxk) (cs_B_49 C0 ⟨Nat.le_of_ble_eq_true rfl, Nat.le_of_ble_eq_true rfl⟩) hH hS (hd_recv C0.hK hH rfl hL12) rfl hl.1 rfl (lv_room (Nat.le_of_ble_eq_true rfl)) d_B_put_54 ⟨by show _ ≤ 2; omega, by show _ ≤ 6200; omega⟩) hS (fun r6 w6 H locs hp6 hH hS => ?_)
    obtain ⟨rfl, ew6⟩ := hp6
    obtain ⟨hls9, hkp9⟩ := set_ls (bx := (n, lx, ly, hx1, hy1)) hLs2 h02 ew6 hw2_q13 hk1
    refine lv_pop hx hb d_B_put_57 rfl ?_
    refine lv_iconst (v := 1) hx hb d_B_put_58 (by decide) ?_
    refine W.widen (k := 2) (n := 6200) (by omega) (by omega) ?_
    exact W.zret hx hb hr rfl (fun t ht hW => ⟨⟨1, w6, rfl, Or.inl ⟨rfl, hth, DQ.of_list hD2 hK2 (Or.inl rfl) hkp9 h02 hls9 hN2⟩, Wo.at C0.ev hH hS ht hW⟩, hS.F ht⟩) hS.2.2 d_B_put_59 (hlocks := C0.2.2.2.2.2.2)

set_option maxHeartbeats 4000000 in
set_option maxRecDepth 100000 in
theorem t_B_put0 (l : Launch) (hlt : l.stackTraces = false) (G : Gl) (w : World) {x : Nat} (n lx ly hx1 hy1 : Int32) (h : ¬ okN n) :
    ThM l y_B_put ws_B_put 8 G w [.ref x, .int n, .int lx, .int ly, .int hx1, .int hy1] "java/lang/IndexOutOfBoundsException" := by
  refine th_ent (by decide +kernel) (Nat.le_of_ble_eq_true rfl) (fun p e s m below meth c ls C0 ht hH hl => ?_)
  have hx := C0.1
  have hb := C0.2.1
  have hS : va_S (gA G) s.heap s.heap [] := va_S.rf
  have hl : lv_has ls 8 [(0, .ref x), (1, .int n), (2, .int lx), (3, .int ly), (4, .int hx1), (5, .int hy1)] := hl
  refine lv_iload_n hx hb d_B_put_0 rfl (lv_at hl 1 rfl) ?_
  exact th_out ht C0.2.2.2.2.2.2 (xrunS C0 (t_B_requireNumber l hlt G w n h) (cs_B_28 C0 ⟨by decide, by decide⟩) hH hS rfl hl.1 rfl (lv_room (Nat.le_of_ble_eq_true rfl)) d_B_put_1 ⟨Nat.le_refl _, Nat.le_refl _⟩)

set_option maxHeartbeats 4000000 in
set_option maxRecDepth 100000 in
theorem t_B_put1 (l : Launch) (hlt : l.stackTraces = false) (G : Gl) (w : World) {x : Nat} (n lx ly hx1 hy1 : Int32) (hn9 : okN n) (h : ¬ okB lx ly hx1 hy1) :
    ThM l y_B_put ws_B_put 8 G w [.ref x, .int n, .int lx, .int ly, .int hx1, .int hy1] "java/lang/IllegalArgumentException" := by
  refine th_ent (by decide +kernel) (Nat.le_of_ble_eq_true rfl) (fun p e s m below meth c ls C0 ht hH hl => ?_)
  have hx := C0.1
  have hb := C0.2.1
  have hS : va_S (gA G) s.heap s.heap [] := va_S.rf
  have hl : lv_has ls 8 [(0, .ref x), (1, .int n), (2, .int lx), (3, .int ly), (4, .int hx1), (5, .int hy1)] := hl
  refine lv_iload_n hx hb d_B_put_0 rfl (lv_at hl 1 rfl) ?_
  refine pu_n (runS C0 (k_B_requireNumber l G w n hn9) (cs_B_28 C0 ⟨Nat.le_of_ble_eq_true rfl, Nat.le_of_ble_eq_true rfl⟩) hH hS rfl hl.1 rfl (lv_room (Nat.le_of_ble_eq_true rfl)) d_B_put_1 ⟨Nat.zero_le _, Nat.zero_le _⟩) ?_
  refine lv_iload_n hx hb d_B_put_4 rfl (lv_at hl 2 rfl) ?_
  refine lv_iload_n hx hb d_B_put_5 rfl (lv_at hl 3 rfl) ?_
  refine lv_iload hx hb d_B_put_6 (lv_at hl 4 rfl) ?_
  refine lv_iload hx hb d_B_put_8 (lv_at hl 5 rfl) ?_
  exact th_out ht C0.2.2.2.2.2.2 (xrunS C0 (t_B_requireBounds l hlt G w lx ly hx1 hy1 h) (cs_B_32 C0 ⟨by decide, by decide⟩) hH hS rfl hl.1 rfl (lv_room (Nat.le_of_ble_eq_true rfl)) d_B_put_10 ⟨Nat.le_refl _, Nat.le_refl _⟩)

set_option maxHeartbeats 4000000 in
set_option maxRecDepth 100000 in
theorem k_B_take (l : Launch) (G : Gl) (w : World) {x L E F Gd cF : Nat} {bs : List Bx} {rs : List Int32} (hD : DAt G w x L E F Gd bs rs cF) (n : Int32) (k : Nat) (hn9 : okN n) (hs : Srt bs) (hk : Lb bs n k) :
    GnI l y_B_take ws_B_take 6 0 0 G w [.ref x, .int n] (fun r w1 => (r = 1 ∧ (∃ h : k < bs.length, bs[k].1 = n) ∧ DQ G w w1 x L E F Gd (bs.eraseIdx k) rs (fun c => c = cF)) ∨ (r = 0 ∧ ¬ (∃ h : k < bs.length, bs[k].1 = n) ∧ DQ G w w1 x L E F Gd bs rs (fun c => c = cF))) := by
  refine met_ent (by decide +kernel) (Nat.le_of_ble_eq_true rfl) (fun p e s m below meth c ls C0 hr hin hH hl => ?_)
  have hx := C0.1
  have hb := C0.2.1
  have hS : va_S (gA G) s.heap s.heap [] := va_S.rf
  have hA : ∀ q : Nat, s.heap.size ≤ q → gA G q := fun q h => Nat.le_trans C0.ev.2.2.2.2.2.2.2.2.2.2.2.2 h
  have hl : lv_has ls 3 [(0, .ref x), (1, .int n)] := hl
  obtain ⟨hB, ⟨N, f, md, hLs, hN0⟩, ⟨g, hF, hg⟩, ⟨cG, d, hGd, hcG⟩, hc1, hc2, hc3⟩ := id hD
  obtain ⟨hL1, hL2, hL3, hL4, hL5⟩ := id hLs
  have h02 := ge0_none C0 hH
  refine lv_iload_n hx hb d_B_take_0 rfl (lv_at hl 1 rfl) ?_
  refine pu_n (runS C0 (k_B_requireNumber l G w n hn9) (cs_B_28 C0 ⟨Nat.le_of_ble_eq_true rfl, Nat.le_of_ble_eq_true rfl⟩) hH hS rfl hl.1 rfl (lv_room (Nat.le_of_ble_eq_true rfl)) d_B_take_1 ⟨by show _ ≤ 0; omega, by show _ ≤ 0; omega⟩) ?_
  refine lv_aload_n hx hb d_B_take_4 rfl (lv_at hl 0 rfl) ?_
  refine lv_iload_n hx hb d_B_take_5 rfl (lv_at hl 1 rfl) ?_
  refine pu_v (runV C0 (k_B_indexFor l G w n k hB hLs hs hk) (cs_B_41 C0 ⟨Nat.le_of_ble_eq_true rfl, Nat.le_of_ble_eq_true rfl⟩) hH hS (hd_recv C0.hK hH rfl hB) rfl hl.1 rfl (lv_room (Nat.le_of_ble_eq_true rfl)) d_B_take_6 ⟨by show _ ≤ 0; omega, by show _ ≤ 0; omega⟩) ?_
  refine lv_istore_n (lv' := [(2, .int (nI k)), (0, .ref x), (1, .int n)]) hx hb d_B_take_9 rfl hl (by decide) rfl (fun ls hl => ?_)
  refine lv_aload_n hx hb d_B_take_10 rfl (lv_at hl 1 rfl) ?_
  refine lv_iload_n hx hb d_B_take_11 rfl (lv_at hl 0 rfl) ?_
  refine lv_iload_n hx hb d_B_take_12 rfl (lv_at hl 2 rfl) ?_
  refine pu_v (runV C0 (k_B_isAt l G w k n hk.1 hB hLs) (cs_B_45 C0 ⟨Nat.le_of_ble_eq_true rfl, Nat.le_of_ble_eq_true rfl⟩) hH hS (hd_recv C0.hK hH rfl hB) rfl hl.1 rfl (lv_room (Nat.le_of_ble_eq_true rfl)) d_B_take_13 ⟨by show _ ≤ 0; omega, by show _ ≤ 0; omega⟩) ?_
  refine lv_if_ne (tgt := 21) hx hb d_B_take_16 (by decide) (fun c_16 => ?_) (fun c_16 => ?_)
  · have hth : (∃ h : k < bs.length, bs[k].1 = n) := Classical.byContradiction (fun h => c_16 (b01_f h))
    obtain ⟨hk1, -⟩ := id hth
    obtain ⟨xk, hxk, hxw⟩ := hL5 k hk1
    refine lv_aload_n hx hb d_B_take_21 rfl (lv_at hl 1 rfl) ?_
    refine gf_B_10 C0 hH hB rfl d_B_take_22 ?_
    refine lv_iload_n hx hb d_B_take_25 rfl (lv_at hl 0 rfl) ?_
    refine gn_q (runV C0 (k_A_remove l G w hL1 (hLs.arr (by omega)) hL2 hL3 hLs.q hk1 hxk) (cs_B_57 C0 ⟨Nat.le_of_ble_eq_true rfl, Nat.le_of_ble_eq_true rfl⟩) hH hS (hd_recv C0.hK hH rfl hL1) rfl hl.1 rfl (lv_room (Nat.le_of_ble_eq_true rfl)) d_B_take_26 ⟨by show _ ≤ 0; omega, by show _ ≤ 0; omega⟩) hS (fun r1 w1 H locs hp1 hH hS => ?_)
    obtain ⟨rfl, hr9⟩ := hp1
    obtain ⟨f9, md9, hls9, hkp9⟩ := rem_ls hLs h02 hr9 hk1
    refine lv_pop hx hb d_B_take_29 rfl ?_
    refine lv_iconst (v := 1) hx hb d_B_take_30 (by decide) ?_
    refine W.widen (k := 0) (n := 0) (by omega) (by omega) ?_
    exact W.zret hx hb hr rfl (fun t ht hW => ⟨⟨1, w1, rfl, Or.inl ⟨rfl, hth, DQ.of_list hD Kp.rf (Or.inl rfl) hkp9 h02 hls9 hN0⟩, Wo.at C0.ev hH hS ht hW⟩, hS.F ht⟩) hS.2.2 d_B_take_31 (hlocks := C0.2.2.2.2.2.2)
  · have hth : ¬ (∃ h : k < bs.length, bs[k].1 = n) := fun h => absurd ((b01_t h).symm.trans c_16) (by decide)
    refine lv_iconst (v := 0) hx hb d_B_take_19 (by decide) ?_
    refine W.widen (k := 0) (n := 0) (by omega) (by omega) ?_
    exact W.zret hx hb hr rfl (fun t ht hW => ⟨⟨0, w, rfl, Or.inr ⟨rfl, hth, E, F, Gd, cF, Or.inl rfl, Or.inl rfl, Or.inl rfl, hD, Kp.rf, rfl⟩, Wo.at C0.ev hH hS ht hW⟩, hS.F ht⟩) hS.2.2 d_B_take_20 (hlocks := C0.2.2.2.2.2.2)

set_option maxHeartbeats 4000000 in
set_option maxRecDepth 100000 in
theorem t_B_take (l : Launch) (hlt : l.stackTraces = false) (G : Gl) (w : World) {x : Nat} (n : Int32) (h : ¬ okN n) :
    ThM l y_B_take ws_B_take 8 G w [.ref x, .int n] "java/lang/IndexOutOfBoundsException" := by
  refine th_ent (by decide +kernel) (Nat.le_of_ble_eq_true rfl) (fun p e s m below meth c ls C0 ht hH hl => ?_)
  have hx := C0.1
  have hb := C0.2.1
  have hS : va_S (gA G) s.heap s.heap [] := va_S.rf
  have hl : lv_has ls 3 [(0, .ref x), (1, .int n)] := hl
  refine lv_iload_n hx hb d_B_take_0 rfl (lv_at hl 1 rfl) ?_
  exact th_out ht C0.2.2.2.2.2.2 (xrunS C0 (t_B_requireNumber l hlt G w n h) (cs_B_28 C0 ⟨by decide, by decide⟩) hH hS rfl hl.1 rfl (lv_room (Nat.le_of_ble_eq_true rfl)) d_B_take_1 ⟨Nat.le_refl _, Nat.le_refl _⟩)

set_option maxHeartbeats 4000000 in
set_option maxRecDepth 100000 in
theorem k_B_clear (l : Launch) (G : Gl) (w : World) {x L E F Gd cF : Nat} {bs : List Bx} {rs : List Int32} (hD : DAt G w x L E F Gd bs rs cF)  :
    GnI l y_B_clear ws_B_clear 2 0 0 G w [.ref x] (fun r w1 => r = nI bs.length ∧ DQ G w w1 x L E F Gd [] rs (fun c => c = cF)) := by
  refine met_ent (by decide +kernel) (Nat.le_of_ble_eq_true rfl) (fun p e s m below meth c ls C0 hr hin hH hl => ?_)
  have hx := C0.1
  have hb := C0.2.1
  have hS : va_S (gA G) s.heap s.heap [] := va_S.rf
  have hA : ∀ q : Nat, s.heap.size ≤ q → gA G q := fun q h => Nat.le_trans C0.ev.2.2.2.2.2.2.2.2.2.2.2.2 h
  have hl : lv_has ls 2 [(0, .ref x)] := hl
  obtain ⟨hB, ⟨N, f, md, hLs, hN0⟩, ⟨g, hF, hg⟩, ⟨cG, d, hGd, hcG⟩, hc1, hc2, hc3⟩ := id hD
  obtain ⟨hL1, hL2, hL3, hL4, hL5⟩ := id hLs
  have h02 := ge0_none C0 hH
  refine lv_aload_n hx hb d_B_clear_0 rfl (lv_at hl 0 rfl) ?_
  refine gf_B_10 C0 hH hB rfl d_B_clear_1 ?_
  refine pu_v (runV C0 (k_A_size l G w hL1) (cs_B_61 C0 ⟨Nat.le_of_ble_eq_true rfl, Nat.le_of_ble_eq_true rfl⟩) hH hS (hd_recv C0.hK hH rfl hL1) rfl hl.1 rfl (lv_room (Nat.le_of_ble_eq_true rfl)) d_B_clear_4 ⟨by show _ ≤ 0; omega, by show _ ≤ 0; omega⟩) ?_
  refine lv_istore_n (lv' := [(1, .int (nI bs.length)), (0, .ref x)]) hx hb d_B_clear_7 rfl hl (by decide) rfl (fun ls hl => ?_)
  refine lv_aload_n hx hb d_B_clear_8 rfl (lv_at hl 1 rfl) ?_
  refine gf_B_10 C0 hH hB rfl d_B_clear_9 ?_
  by_cases hl0 : bs.length = 0
  · refine gn_v (runV C0 (k_A_clear0 l G w (md := md) (hL1.trans (by rw [hl0])) hL4) (cs_B_65 C0 ⟨Nat.le_of_ble_eq_true rfl, Nat.le_of_ble_eq_true rfl⟩) hH hS (hd_recv C0.hK hH rfl hL1) rfl hl.1 rfl (lv_room (Nat.le_of_ble_eq_true rfl)) d_B_clear_12 ⟨by show _ ≤ 0; omega, by show _ ≤ 0; omega⟩) hS (fun w1 H locs hp1 hH hS => ?_)
    obtain ⟨f9, md9, hls9, hkp9⟩ := clr_ls hLs hp1
    refine lv_iload_n hx hb d_B_clear_15 rfl (lv_at hl 0 rfl) ?_
    refine W.widen (k := 0) (n := 0) (by omega) (by omega) ?_
    exact W.iret hx hb hr (fun t ht hW => ⟨⟨(nI bs.length), w1, rfl, ⟨rfl, DQ.of_list hD Kp.rf (Or.inl rfl) hkp9 h02 hls9 hN0⟩, Wo.at C0.ev hH hS ht hW⟩, hS.F ht⟩) hS.2.2 d_B_clear_16 (hlocks := C0.2.2.2.2.2.2)
  · refine gn_v (runV C0 (k_A_clear1 l G w hL1 (hLs.arr (by omega)) hL2 hL3) (cs_B_65 C0 ⟨Nat.le_of_ble_eq_true rfl, Nat.le_of_ble_eq_true rfl⟩) hH hS (hd_recv C0.hK hH rfl hL1) rfl hl.1 rfl (lv_room (Nat.le_of_ble_eq_true rfl)) d_B_clear_12 ⟨by show _ ≤ 0; omega, by show _ ≤ 0; omega⟩) hS (fun w2 H locs hp2 hH hS => ?_)
    obtain ⟨f9, md9, hls9, hkp9⟩ := clr_ls hLs hp2
    refine lv_iload_n hx hb d_B_clear_15 rfl (lv_at hl 0 rfl) ?_
    refine W.widen (k := 0) (n := 0) (by omega) (by omega) ?_
    exact W.iret hx hb hr (fun t ht hW => ⟨⟨(nI bs.length), w2, rfl, ⟨rfl, DQ.of_list hD Kp.rf (Or.inl rfl) hkp9 h02 hls9 hN0⟩, Wo.at C0.ev hH hS ht hW⟩, hS.F ht⟩) hS.2.2 d_B_clear_16 (hlocks := C0.2.2.2.2.2.2)
end
section
/-! find -/
def okF (k : Int32) : Prop := 0 ≤ k ∧ k ≤ 2
/-- what a growing row has used -/
def Use (cF ce sl : Nat) : Prop := (cF < 4096 ∧ 16 * ce ≤ 16 + cF ∧ sl ≤ 5 + 2 * cF) ∨ (cF = 4096 ∧ ce ≤ 258 ∧ sl ≤ 12295)
noncomputable def fnd (k : Int32) (q : Bx) : List Bx → List Int32
  | [] => []
  | b :: t => if b01 (fitsP k b q) = 0 then fnd k q t else b.1 :: fnd k q t
theorem m2 {a b c : Nat} (h1 : a ≠ b) (h2 : a ≠ c) : a ∉ [b, c] := fun h => by
  rcases List.mem_cons.mp h with h | h
  · exact h1 h
  · exact h2 (List.mem_singleton.mp h)
theorem LsAt.two {G : Gl} {w w1 : World} {x L E N F : Nat} {f : Nat → Option Nat} {md : Int32} {bs : List Bx} {e : List Value} {g : vp_A} {c : ClassId} (h : LsAt G w L E N f md bs) (h0 : w (ge0 G) = none) (hx : w x = some (.inr (2, e))) (hF : w F = some (.inl (c, g))) (hg : ∀ (n : Nat) (f : Nat → Option Nat), g ≠ (n, .inr (.inr (.inr (.inr f))))) (hK : Kp w w1 [x, F]) : LsAt G w1 L E N f md bs := by
  refine ⟨hK _ _ h.1 (m2 (wne h.1 hx (by simp)) (wne h.1 hF (by simp))), h.2.1, h.2.2.1, h.2.2.2.1.imp id (fun q => hK _ _ q (m2 (h.nE h0 hx).symm (h.nA (n := 0) h0 hF hg).symm)), fun i hi => ?_⟩
  obtain ⟨y, a, b⟩ := h.2.2.2.2 i hi
  exact ⟨y, a, hK _ _ b (m2 (wne b hx (by simp)) (wne b hF (by simp)))⟩
theorem DAt.app {G : Gl} {w w1 : World} {x L E F Gd cF c1 : Nat} {bs : List Bx} {rs : List Int32} {v : Int32} {g : Nat → Int32} (h : DAt G w x L E F Gd bs rs cF) (h0 : w (ge0 G) = none) (hF : w F = some (.inl (G.2.1.1, cF, .inl g))) (hA : AppQ G w w1 x L F Gd rs.length c1 v g) (h1 : rs.length + 1 ≤ c1) (h2 : 16 ≤ c1) (h3 : c1 ≤ 4096) : ∃ F1 : Nat, (F1 = F ∨ w F1 = none) ∧ DAt G w1 x L E F1 Gd bs (rs ++ [v]) c1 ∧ Kp w w1 [x, F] := by
  obtain ⟨hB, ⟨N, f, md, hLs, hN0⟩, ⟨g0, hF0, hg⟩, ⟨cG, d, hGd, hcG⟩, hc⟩ := h
  have e0 : g0 = g := by
    have := hF0.symm.trans hF
    simpa using this
  subst e0
  obtain ⟨F1, g1, a1, a2, a3, a4, a5, a6⟩ := hA
  refine ⟨F1, a1, ⟨?_, ⟨N, f, md, hLs.two h0 hB hF (fun _ _ => by simp) a6, hN0⟩, ⟨g1, a2, fun i hi => ?_⟩, ⟨cG, d, a6 _ _ hGd (m2 (wne hGd hB (by simp)) (wne hGd hF (by simp))), hcG⟩, ?_, h2, h3⟩, a6⟩
  · rw [List.length_append]; exact a5
  · rw [List.length_append] at hi
    by_cases q : i < rs.length
    · rw [List.getElem_append_left q, a3 i q]; exact hg i q
    · have : i = rs.length := by have : [v].length = 1 := rfl; omega
      subst this
      rw [a4]; simp
  · rw [List.length_append]; exact h1
theorem DAt.res0 {G : Gl} {w w1 : World} {x L E F Gd cF : Nat} {bs : List Bx} {rs : List Int32} (h : DAt G w x L E F Gd bs rs cF) (h0 : w (ge0 G) = none) (hA : w1 = va_up w x (some (.inr (2, [.ref L, .ref F, .int 0, .ref Gd])))) : DAt G w1 x L E F Gd bs [] cF ∧ Kp w w1 [x, F] := by
  obtain ⟨hB, ⟨N, f, md, hLs, hN0⟩, ⟨g, hF, hg⟩, ⟨cG, d, hGd, hcG⟩, hc⟩ := h
  have hK : Kp w w1 [x, F] := by rw [hA]; exact Kp.up (Or.inl (by simp))
  refine ⟨⟨?_, ⟨N, f, md, hLs.two h0 hB hF (fun _ _ => by simp) hK, hN0⟩, ⟨g, ?_, fun i hi => absurd hi (Nat.not_lt_zero _)⟩, ⟨cG, d, hK _ _ hGd (m2 (wne hGd hB (by simp)) (wne hGd hF (by simp))), hcG⟩, Nat.zero_le _, hc.2⟩, hK⟩
  · rw [hA]; exact va_up_self _ _ _
  · rw [hA, va_up_ne _ _ (wne hF hB (by simp))]; exact hF

theorem kp_none {w w9 : World} {x F F9 F8 : Nat} {e e9 f9 : va_E} (hK : Kp w w9 [x, F]) (hB : w x = some e) (h : w9 F8 = none) (hB9 : w9 x = some e9) (hF9 : w9 F9 = some f9) (hFf : F9 = F ∨ w F9 = none) : w F8 = none ∨ F8 = F := by
  cases q : w F8 with
  | none => exact Or.inl rfl
  | some z =>
    refine Or.inr (Classical.byContradiction (fun hn => ?_))
    have hx : F8 ≠ x := fun q2 => by rw [q2, hB9] at h; cases h
    rw [hK _ _ q (m2 hx hn)] at h
    cases h

set_option maxHeartbeats 4000000 in
set_option maxRecDepth 100000 in
theorem k_B_find (l : Launch) (G : Gl) (w : World) {x L E F Gd cF : Nat} {bs : List Bx} {rs : List Int32} (hD : DAt G w x L E F Gd bs rs cF) (k lx ly hx1 hy1 : Int32) (hk9 : okF k) (hb9 : okB lx ly hx1 hy1) (hln : bs.length ≤ 4096) :
    GnI l y_B_find ws_B_find 6 260 12300 G w [.ref x, .int k, .int lx, .int ly, .int hx1, .int hy1] (fun r w1 => r = nI (fnd k ((-1 : Int32), lx, ly, hx1, hy1) bs).length ∧ DQ G w w1 x L E F Gd bs (fnd k ((-1 : Int32), lx, ly, hx1, hy1) bs) (fun _ => True)) := by
  refine met_ent (by decide +kernel) (Nat.le_of_ble_eq_true rfl) (fun p e s m below meth c ls C0 hr hin hH hl => ?_)
  have hx := C0.1
  have hb := C0.2.1
  have hS : va_S (gA G) s.heap s.heap [] := va_S.rf
  have hA : ∀ q : Nat, s.heap.size ≤ q → gA G q := fun q h => Nat.le_trans C0.ev.2.2.2.2.2.2.2.2.2.2.2.2 h
  have hl : lv_has ls 9 [(0, .ref x), (1, .int k), (2, .int lx), (3, .int ly), (4, .int hx1), (5, .int hy1)] := hl
  obtain ⟨hB, ⟨N, f, md, hLs, hN0⟩, ⟨g, hF, hg⟩, ⟨cG, d, hGd, hcG⟩, hc1, hc2, hc3⟩ := id hD
  obtain ⟨hL1, hL2, hL3, hL4, hL5⟩ := id hLs
  refine lv_iload_n hx hb d_B_find_0 rfl (lv_at hl 2 rfl) ?_
  refine lv_iload_n hx hb d_B_find_1 rfl (lv_at hl 3 rfl) ?_
  refine lv_iload hx hb d_B_find_2 (lv_at hl 4 rfl) ?_
  refine lv_iload hx hb d_B_find_4 (lv_at hl 5 rfl) ?_
  refine pu_n (runS C0 (k_B_requireBounds l G w lx ly hx1 hy1 hb9) (cs_B_32 C0 ⟨Nat.le_of_ble_eq_true rfl, Nat.le_of_ble_eq_true rfl⟩) hH hS rfl hl.1 rfl (lv_room (Nat.le_of_ble_eq_true rfl)) d_B_find_6 ⟨by show _ ≤ 260; omega, by show _ ≤ 12300; omega⟩) ?_
  refine lv_iload_n hx hb d_B_find_9 rfl (lv_at hl 1 rfl) ?_
  refine lv_if_lt (tgt := 18) hx hb d_B_find_10 (by decide) (fun c_10 => ?_) (fun c_10 => ?_)
  · exact absurd hk9 (by unfold okF; revert c_10; simp only [Int32.le_iff_toInt_le, Int32.lt_iff_toInt_lt, tI9, tIm9, tI4096, tI3, tI2, tI1, tI0]; omega)
  · refine lv_iload_n hx hb d_B_find_13 rfl (lv_at hl 1 rfl) ?_
    refine lv_iconst (v := 2) hx hb d_B_find_14 (by decide) ?_
    refine lv_icmp_le (tgt := 28) hx hb d_B_find_15 (by decide) (fun c_15 => ?_) (fun c_15 => ?_)
    · refine hd_new (ci := 1) (fs := [.int 0, .int 0, .int 0, .int 0, .int 0]) hx hb C0.2.2.2.2.1 in_X tyX tyX_ok C0.2.2.2.1 (C0.2.2.2.2.1 _ mw_104) (C0.2.2.2.2.1 _ mw_108) (C0.2.2.2.2.1 _ mw_11) C0.hK hH hS hA rfl (fun j hj => by rcases (show j = 0 ∨ j = 1 ∨ j = 2 ∨ j = 3 ∨ j = 4 by omega) with rfl | rfl | rfl | rfl | rfl <;> rfl) (by show _ ≤ 260; omega) (by show _ ≤ 12300; omega) d_B_find_28 (fun q28 H hnq28 hH hS => ?_)
      obtain ⟨w1, ew1⟩ : ∃ z : World, z = va_up w q28 (some (.inr (1, [.int 0, .int 0, .int 0, .int 0, .int 0]))) := ⟨_, rfl⟩
      have hH : Hw G w1 H := by rw [ew1]; exact hH
      have hw1_x : w1 x = some (.inr (2, [.ref L, .ref F, .int (nI rs.length), .ref Gd])) := by rw [ew1, va_up_ne _ _ (wnf hB hnq28)]; exact hB
      have hw1_q28 : w1 q28 = some (.inr (1, [.int 0, .int 0, .int 0, .int 0, .int 0])) := by rw [ew1]; exact va_up_self _ _ _
      refine lv_dup hx hb d_B_find_31 rfl ?_
      refine lv_iconst (v := (-1)) hx hb d_B_find_32 (by decide) ?_
      refine lv_iload_n hx hb d_B_find_33 rfl (lv_at hl 2 rfl) ?_
      refine lv_iload_n hx hb d_B_find_34 rfl (lv_at hl 3 rfl) ?_
      refine lv_iload hx hb d_B_find_35 (lv_at hl 4 rfl) ?_
      refine lv_iload hx hb d_B_find_37 (lv_at hl 5 rfl) ?_
      refine gn_v (runIN C0 (k_X_init l G w1 (-1) lx ly hx1 hy1 hw1_q28) (cs_B_38 C0 ⟨Nat.le_of_ble_eq_true rfl, Nat.le_of_ble_eq_true rfl⟩) hH hS rfl hl.1 rfl (lv_room (Nat.le_of_ble_eq_true rfl)) d_B_find_39 ⟨by show _ ≤ 260; omega, by show _ ≤ 12300; omega⟩) hS (fun w2 H locs hp2 hH hS => ?_)
      have ew2 := hp2
      have hw2_q28 : w2 q28 = some (.inr (1, bxf ((-1 : Int32), lx, ly, hx1, hy1))) := by rw [ew2]; exact va_up_self _ _ _
      have hK2 : Kp w w2 [] := by rw [ew2, ew1]; exact (Kp.up (Or.inr hnq28)).ups (Or.inr hnq28)
      have hD2 := hD.mono hK2
      have hB2 := hD2.1
      have h02 := ge0_none C0 hH
      refine lv_astore (lv' := [(6, .ref q28), (0, .ref x), (1, .int k), (2, .int lx), (3, .int ly), (4, .int hx1), (5, .int hy1)]) hx hb d_B_find_42 hl (by decide) rfl (fun ls hl => ?_)
      refine lv_aload_n hx hb d_B_find_44 rfl (lv_at hl 1 rfl) ?_
      refine lv_iconst (v := 0) hx hb d_B_find_45 (by decide) ?_
      refine pf_B_20 C0 hH hS hB2 rfl rfl (Nat.le_of_ble_eq_true rfl) d_B_find_46 (fun H locs hH hS => ?_)
      obtain ⟨w3, ew3⟩ : ∃ z : World, z = va_up w2 x (some (.inr (2, [.ref L, .ref F, .int 0, .ref Gd]))) := ⟨_, rfl⟩
      have hH : Hw G w3 H := by rw [ew3]; exact hH
      have hw3_q28 : w3 q28 = some (.inr (1, [.int (-1), .int lx, .int ly, .int hx1, .int hy1])) := by rw [ew3, va_up_ne _ _ ((wnf hB hnq28).symm)]; exact hw2_q28
      have hw3_x : w3 x = some (.inr (2, [.ref L, .ref F, .int 0, .ref Gd])) := by rw [ew3]; exact va_up_self _ _ _
      refine lv_iconst (v := 0) hx hb d_B_find_49 (by decide) ?_
      refine lv_istore (lv' := [(7, .int 0), (6, .ref q28), (0, .ref x), (1, .int k), (2, .int lx), (3, .int ly), (4, .int hx1), (5, .int hy1)]) hx hb d_B_find_50 hl (by decide) rfl (fun ls hl => ?_)
      obtain ⟨hD3, hK3⟩ := DAt.res0 hD2 h02 ew3
      have loop : ∀ (u j : Nat), j + u = bs.length → ∀ (w9 : World) (F9 cF9 ce sl : Nat) (acc : List Int32) (H : Heap) (locs : List Loc), Hw G w9 H → va_S (gA G) s.heap H locs → DAt G w9 x L E F9 Gd bs acc cF9 → w9 q28 = some (.inr (1, bxf ((-1 : Int32), lx, ly, hx1, hy1))) → Kp w w9 [x, F] → (F9 = F ∨ w F9 = none) → Use cF9 ce sl → acc.length ≤ j → acc ++ fnd k ((-1 : Int32), lx, ly, hx1, hy1) (bs.drop j) = fnd k ((-1 : Int32), lx, ly, hx1, hy1) bs → ∀ ls : Array Slot, lv_has ls 9 [(0, .ref x), (1, .int k), (6, .ref q28), (7, .int (nI j))] → W p l e (rmK 6 260 12300) s m [.ref x, .int k, .int lx, .int ly, .int hx1, .int hy1].toArray below meth c H locs ce sl (MQ below (va_Qi (fun r w1 => r = nI (fnd k ((-1 : Int32), lx, ly, hx1, hy1) bs).length ∧ DQ G w w1 x L E F Gd bs (fnd k ((-1 : Int32), lx, ly, hx1, hy1) bs) (fun _ => True)) (Wo G) (gA G)) [.ref x, .int k, .int lx, .int ly, .int hx1, .int hy1].toArray s 260 12300 (gA G)) (F0 m 52 ls []) := by
        intro u
        induction u with
        | zero =>
          intro j hj w9 F9 cF9 ce sl acc H locs hH hS hD9 hq9 hK9 hFf hU hac hac2 ls hl
          unfold Use at hU
          obtain ⟨hB9, ⟨N9, f9, md9, hLs9, hN9⟩, ⟨g9, hF9, hg9⟩, ⟨cG9, d9, hGd9, hcG9⟩, hc19, hc29, hc39⟩ := id hD9
          obtain ⟨hL19, hL29, hL39, hL49, hL59⟩ := id hLs9
          have h09 := ge0_none C0 hH
          refine lv_iload hx hb d_B_find_52 (lv_at hl 3 rfl) ?_
          refine lv_aload_n hx hb d_B_find_54 rfl (lv_at hl 0 rfl) ?_
          refine gf_B_10 C0 hH hB9 rfl d_B_find_55 ?_
          refine pu_v (runV C0 (k_A_size l G w9 hL19) (cs_B_61 C0 ⟨Nat.le_of_ble_eq_true rfl, Nat.le_of_ble_eq_true rfl⟩) hH hS (hd_recv C0.hK hH rfl hL19) rfl hl.1 rfl (lv_room (Nat.le_of_ble_eq_true rfl)) d_B_find_58 ⟨by show _ ≤ 260; omega, by show _ ≤ 12300; omega⟩) ?_
          refine lv_icmp_ge (tgt := 104) hx hb d_B_find_61 (by decide) (fun c_61 => ?_) (fun c_61 => ?_)
          · have hfin : acc = fnd k ((-1 : Int32), lx, ly, hx1, hy1) bs := by rw [← hac2, List.drop_eq_nil_of_le (by omega), fnd, List.append_nil]
            refine lv_aload_n hx hb d_B_find_104 rfl (lv_at hl 0 rfl) ?_
            refine gf_B_20 C0 hH hB9 rfl d_B_find_105 ?_
            refine W.widen (k := 260) (n := 12300) (by omega) (by omega) ?_
            exact W.iret hx hb hr (fun t ht hW => ⟨⟨(nI acc.length), w9, rfl, ⟨by rw [hfin], by rw [← hfin]; exact ⟨E, F9, Gd, cF9, Or.inl rfl, hFf, Or.inl rfl, hD9, hK9.mono (fun b hb => Or.inl (by rcases List.mem_cons.mp hb with q | q; (· simp [q]); (· simp [List.mem_singleton.mp q]))), trivial⟩⟩, Wo.at C0.ev hH hS ht hW⟩, hS.F ht⟩) hS.2.2 d_B_find_108 (hlocks := C0.2.2.2.2.2.2)
          · exact absurd (nI_le (show bs.length ≤ j by omega) (by omega)) c_61
        | succ u ih =>
          intro j hj w9 F9 cF9 ce sl acc H locs hH hS hD9 hq9 hK9 hFf hU hac hac2 ls hl
          unfold Use at hU
          obtain ⟨hB9, ⟨N9, f9, md9, hLs9, hN9⟩, ⟨g9, hF9, hg9⟩, ⟨cG9, d9, hGd9, hcG9⟩, hc19, hc29, hc39⟩ := id hD9
          obtain ⟨hL19, hL29, hL39, hL49, hL59⟩ := id hLs9
          have h09 := ge0_none C0 hH
          refine lv_iload hx hb d_B_find_52 (lv_at hl 3 rfl) ?_
          refine lv_aload_n hx hb d_B_find_54 rfl (lv_at hl 0 rfl) ?_
          refine gf_B_10 C0 hH hB9 rfl d_B_find_55 ?_
          refine pu_v (runV C0 (k_A_size l G w9 hL19) (cs_B_61 C0 ⟨Nat.le_of_ble_eq_true rfl, Nat.le_of_ble_eq_true rfl⟩) hH hS (hd_recv C0.hK hH rfl hL19) rfl hl.1 rfl (lv_room (Nat.le_of_ble_eq_true rfl)) d_B_find_58 ⟨by show _ ≤ 260; omega, by show _ ≤ 12300; omega⟩) ?_
          refine lv_icmp_ge (tgt := 104) hx hb d_B_find_61 (by decide) (fun c_61 => ?_) (fun c_61 => ?_)
          · exact absurd c_61 (Int32.not_le.mpr (nI_lt (show j < bs.length by omega) (by omega)))
          · have hjl : j < bs.length := by omega
            refine lv_aload_n hx hb d_B_find_64 rfl (lv_at hl 0 rfl) ?_
            refine gf_B_10 C0 hH hB9 rfl d_B_find_65 ?_
            refine lv_iload hx hb d_B_find_68 (lv_at hl 3 rfl) ?_
            obtain ⟨xj, hf_xj, h_xj⟩ := hL59 j (hjl)
            refine pu_v (runV C0 (k_A_get l G w9 hL19 (hLs9.arr (by omega)) (i := j) (by omega) hL29 (by omega) hf_xj) (cs_B_75 C0 ⟨Nat.le_of_ble_eq_true rfl, Nat.le_of_ble_eq_true rfl⟩) hH hS (hd_recv C0.hK hH rfl hL19) rfl hl.1 rfl (lv_room (Nat.le_of_ble_eq_true rfl)) d_B_find_70 ⟨by show _ ≤ 260; omega, by show _ ≤ 12300; omega⟩) ?_
            refine va_castY hx hb C0.2.2.2.1 (C0.2.2.2.2.1 _ mw_104) (C0.ev.2.2.2.2.2.2.1 (Cond.castable "BoxDrawer$Box" "BoxDrawer$Box") (by decide +kernel)) (hd_recv C0.hK hH rfl h_xj) d_B_find_73 ?_
            refine lv_astore (lv' := [(8, .ref xj), (0, .ref x), (1, .int k), (6, .ref q28), (7, .int (nI j))]) hx hb d_B_find_76 hl (by decide) rfl (fun ls hl => ?_)
            refine lv_iload_n hx hb d_B_find_78 rfl (lv_at hl 2 rfl) ?_
            refine lv_aload hx hb d_B_find_79 (lv_at hl 0 rfl) ?_
            refine lv_aload hx hb d_B_find_81 (lv_at hl 3 rfl) ?_
            refine pu_v (runS C0 (k_B_fits l G w9 k h_xj hq9) (cs_B_78 C0 ⟨Nat.le_of_ble_eq_true rfl, Nat.le_of_ble_eq_true rfl⟩) hH hS rfl hl.1 rfl (lv_room (Nat.le_of_ble_eq_true rfl)) d_B_find_83 ⟨by show _ ≤ 260; omega, by show _ ≤ 12300; omega⟩) ?_
            refine lv_if_eq (tgt := 98) hx hb d_B_find_86 (by decide) (fun c_86 => ?_) (fun c_86 => ?_)
            · obtain ⟨y_1, ey_1⟩ : ∃ z : Int32, z = (nI j) + 1 := ⟨_, rfl⟩
              refine lv_iinc (v := y_1) (lv' := [(7, .int y_1), (8, .ref xj), (0, .ref x), (1, .int k), (6, .ref q28)]) hx hb d_B_find_98 hl (k := 4) rfl (by rw [ey_1]; rfl) (by decide) rfl (fun ls hl => ?_)
              refine lv_goto (tgt := 52) hx hb d_B_find_101 (by decide) ?_
              rw [show y_1 = nI (j + 1) from by rw [ey_1]; exact nI_1 j] at hl
              exact ih (j + 1) (by omega) w9 F9 cF9 ce sl acc H locs hH hS hD9 hq9 hK9 hFf hU (by omega) (by rw [← hac2, List.drop_eq_getElem_cons hjl, fnd, if_pos c_86]) ls (lv_sub hl [2, 3, 4, 0] rfl)
            · refine lv_aload_n hx hb d_B_find_89 rfl (lv_at hl 1 rfl) ?_
              refine lv_aload hx hb d_B_find_90 (lv_at hl 0 rfl) ?_
              refine gf_B_82 C0 hH h_xj rfl d_B_find_92 ?_
              by_cases hrm : acc.length < cF9
              · refine gn_v (runV C0 (k_B_append0 l G w9 hB9 hF9 ((bs[j]).1) hrm hc39) (cs_B_85 C0 ⟨Nat.le_of_ble_eq_true rfl, Nat.le_of_ble_eq_true rfl⟩) hH hS (hd_recv C0.hK hH rfl hB9) rfl hl.1 rfl (lv_room (Nat.le_of_ble_eq_true rfl)) d_B_find_95 ⟨by show _ ≤ 260; omega, by show _ ≤ 12300; omega⟩) hS (fun w4 H locs hp4 hH hS => ?_)
                obtain ⟨F8, hF8, hD8, hK8⟩ := hD9.app h09 hF9 hp4 (by omega) (by omega) (by omega)
                obtain ⟨y_2, ey_2⟩ : ∃ z : Int32, z = (nI j) + 1 := ⟨_, rfl⟩
                refine lv_iinc (v := y_2) (lv' := [(7, .int y_2), (8, .ref xj), (0, .ref x), (1, .int k), (6, .ref q28)]) hx hb d_B_find_98 hl (k := 4) rfl (by rw [ey_2]; rfl) (by decide) rfl (fun ls hl => ?_)
                refine lv_goto (tgt := 52) hx hb d_B_find_101 (by decide) ?_
                rw [show y_2 = nI (j + 1) from by rw [ey_2]; exact nI_1 j] at hl
                refine ih (j + 1) (by omega) w4 F8 _ _ _ (acc ++ [bs[j].1]) H locs hH hS hD8 (hK8 _ _ hq9 (m2 (wne hq9 hB9 (by simp)) (wne hq9 hF9 (by simp)))) (hK9.trans hK8 (fun b hb => ?_)) (hF8.elim (fun q => by rw [q]; exact hFf) (fun q => ?_)) (by unfold Use; omega) (by rw [List.length_append]; exact Nat.succ_le_succ hac) (?_) ls (lv_sub hl [2, 3, 4, 0] rfl)
                · rcases List.mem_cons.mp hb with q | q
                  · exact Or.inl (by simp [q])
                  · rw [List.mem_singleton.mp q]; exact hFf.imp (fun h => by simp [h]) id
                · exact (kp_none hK9 hB q hB9 hF9 hFf).symm
                · rw [← hac2, List.drop_eq_getElem_cons hjl, fnd, if_neg c_86, List.append_assoc]; rfl
              · obtain ⟨c1, hc1⟩ : ∃ z : Nat, z = min (2 * cF9) 4096 := ⟨_, rfl⟩
                refine gn_v (runV C0 (k_B_append1 l G w9 hB9 hF9 ((bs[j]).1) c1 (by omega) (by omega) (by omega) hc1) (cs_B_85 C0 ⟨Nat.le_of_ble_eq_true rfl, Nat.le_of_ble_eq_true rfl⟩) hH hS (hd_recv C0.hK hH rfl hB9) rfl hl.1 rfl (lv_room (Nat.le_of_ble_eq_true rfl)) d_B_find_95 ⟨by show _ ≤ 260; omega, by show _ ≤ 12300; omega⟩) hS (fun w5 H locs hp5 hH hS => ?_)
                obtain ⟨F8, hF8, hD8, hK8⟩ := hD9.app h09 hF9 hp5 (by omega) (by omega) (by omega)
                obtain ⟨y_3, ey_3⟩ : ∃ z : Int32, z = (nI j) + 1 := ⟨_, rfl⟩
                refine lv_iinc (v := y_3) (lv' := [(7, .int y_3), (8, .ref xj), (0, .ref x), (1, .int k), (6, .ref q28)]) hx hb d_B_find_98 hl (k := 4) rfl (by rw [ey_3]; rfl) (by decide) rfl (fun ls hl => ?_)
                refine lv_goto (tgt := 52) hx hb d_B_find_101 (by decide) ?_
                rw [show y_3 = nI (j + 1) from by rw [ey_3]; exact nI_1 j] at hl
                refine ih (j + 1) (by omega) w5 F8 _ _ _ (acc ++ [bs[j].1]) H locs hH hS hD8 (hK8 _ _ hq9 (m2 (wne hq9 hB9 (by simp)) (wne hq9 hF9 (by simp)))) (hK9.trans hK8 (fun b hb => ?_)) (hF8.elim (fun q => by rw [q]; exact hFf) (fun q => ?_)) (by unfold Use; omega) (by rw [List.length_append]; exact Nat.succ_le_succ hac) (?_) ls (lv_sub hl [2, 3, 4, 0] rfl)
                · rcases List.mem_cons.mp hb with q | q
                  · exact Or.inl (by simp [q])
                  · rw [List.mem_singleton.mp q]; exact hFf.imp (fun h => by simp [h]) id
                · exact (kp_none hK9 hB q hB9 hF9 hFf).symm
                · rw [← hac2, List.drop_eq_getElem_cons hjl, fnd, if_neg c_86, List.append_assoc]; rfl
      exact loop bs.length 0 (by omega) w3 F cF _ _ [] H locs hH hS hD3 hw3_q28 ((hK2.mono (fun b hb => by cases hb)).trans hK3 (fun b hb => Or.inl hb)) (Or.inl rfl) (by unfold Use; omega) (Nat.le_refl _) rfl ls (lv_sub hl [2, 3, 1, 0] rfl)
    · exact absurd hk9 (by unfold okF; revert c_15 c_10; simp only [Int32.le_iff_toInt_le, Int32.lt_iff_toInt_lt, tI9, tIm9, tI4096, tI3, tI2, tI1, tI0]; omega)

set_option maxHeartbeats 4000000 in
set_option maxRecDepth 100000 in
theorem t_B_find0 (l : Launch) (hlt : l.stackTraces = false) (G : Gl) (w : World) {x : Nat} (k lx ly hx1 hy1 : Int32) (h : ¬ okB lx ly hx1 hy1) :
    ThM l y_B_find ws_B_find 8 G w [.ref x, .int k, .int lx, .int ly, .int hx1, .int hy1] "java/lang/IllegalArgumentException" := by
  refine th_ent (by decide +kernel) (Nat.le_of_ble_eq_true rfl) (fun p e s m below meth c ls C0 ht hH hl => ?_)
  have hx := C0.1
  have hb := C0.2.1
  have hS : va_S (gA G) s.heap s.heap [] := va_S.rf
  have hl : lv_has ls 9 [(0, .ref x), (1, .int k), (2, .int lx), (3, .int ly), (4, .int hx1), (5, .int hy1)] := hl
  refine lv_iload_n hx hb d_B_find_0 rfl (lv_at hl 2 rfl) ?_
  refine lv_iload_n hx hb d_B_find_1 rfl (lv_at hl 3 rfl) ?_
  refine lv_iload hx hb d_B_find_2 (lv_at hl 4 rfl) ?_
  refine lv_iload hx hb d_B_find_4 (lv_at hl 5 rfl) ?_
  exact th_out ht C0.2.2.2.2.2.2 (xrunS C0 (t_B_requireBounds l hlt G w lx ly hx1 hy1 h) (cs_B_32 C0 ⟨by decide, by decide⟩) hH hS rfl hl.1 rfl (lv_room (Nat.le_of_ble_eq_true rfl)) d_B_find_6 ⟨Nat.le_refl _, Nat.le_refl _⟩)

set_option maxHeartbeats 4000000 in
set_option maxRecDepth 100000 in
theorem t_B_find1 (l : Launch) (hlt : l.stackTraces = false) (G : Gl) (w : World) {x : Nat} (k lx ly hx1 hy1 : Int32) (hb9 : okB lx ly hx1 hy1) (h : ¬ okF k) :
    ThM l y_B_find ws_B_find 8 G w [.ref x, .int k, .int lx, .int ly, .int hx1, .int hy1] "java/lang/IllegalArgumentException" := by
  refine th_ent (by decide +kernel) (Nat.le_of_ble_eq_true rfl) (fun p e s m below meth c ls C0 ht hH hl => ?_)
  have hx := C0.1
  have hb := C0.2.1
  have hS : va_S (gA G) s.heap s.heap [] := va_S.rf
  have hl : lv_has ls 9 [(0, .ref x), (1, .int k), (2, .int lx), (3, .int ly), (4, .int hx1), (5, .int hy1)] := hl
  refine lv_iload_n hx hb d_B_find_0 rfl (lv_at hl 2 rfl) ?_
  refine lv_iload_n hx hb d_B_find_1 rfl (lv_at hl 3 rfl) ?_
  refine lv_iload hx hb d_B_find_2 (lv_at hl 4 rfl) ?_
  refine lv_iload hx hb d_B_find_4 (lv_at hl 5 rfl) ?_
  refine pu_n (runS C0 (k_B_requireBounds l G w lx ly hx1 hy1 hb9) (cs_B_32 C0 ⟨Nat.le_of_ble_eq_true rfl, Nat.le_of_ble_eq_true rfl⟩) hH hS rfl hl.1 rfl (lv_room (Nat.le_of_ble_eq_true rfl)) d_B_find_6 ⟨Nat.zero_le _, Nat.zero_le _⟩) ?_
  refine lv_iload_n hx hb d_B_find_9 rfl (lv_at hl 1 rfl) ?_
  refine lv_if_lt (tgt := 18) hx hb d_B_find_10 (by decide) (fun c_10 => ?_) (fun c_10 => ?_)
  · exact th_throw (text := "what is none of 0, 1, 2") hlt C0 (by decide +kernel) mw_230 mw_10 at_ia og_ia (by decide +kernel) hl.1 d_B_find_18 d_B_find_21 d_B_find_22 d_B_find_24 d_B_find_27 ht (by decide)
  · refine lv_iload_n hx hb d_B_find_13 rfl (lv_at hl 1 rfl) ?_
    refine lv_iconst (v := 2) hx hb d_B_find_14 (by decide) ?_
    refine lv_icmp_le (tgt := 28) hx hb d_B_find_15 (by decide) (fun c_15 => ?_) (fun c_15 => ?_)
    · exact absurd (by unfold okF; revert c_15 c_10; simp only [Int32.le_iff_toInt_le, Int32.lt_iff_toInt_lt, tI9, tIm9, tI4096, tI3, tI2, tI1, tI0]; omega) h
    · exact th_throw (text := "what is none of 0, 1, 2") hlt C0 (by decide +kernel) mw_230 mw_10 at_ia og_ia (by decide +kernel) hl.1 d_B_find_18 d_B_find_21 d_B_find_22 d_B_find_24 d_B_find_27 ht (by decide)
end
section
/-! pairs -/
noncomputable def prI (a : Bx) : List Bx → List (Int32 × Int32)
  | [] => []
  | b :: t => if b01 (bMeets a b) = 0 then prI a t else (a.1, b.1) :: prI a t
noncomputable def prs : List Bx → List (Int32 × Int32)
  | [] => []
  | a :: t => prI a t ++ prs t
def flt (ps : List (Int32 × Int32)) : List Int32 := (ps.take 2048).flatMap (fun q => [q.1, q.2])
theorem flt_lt {ps : List (Int32 × Int32)} (h : ps.length < 2048) (a b : Int32) : flt (ps ++ [(a, b)]) = flt ps ++ [a] ++ [b] := by
  unfold flt
  rw [List.take_of_length_le (by rw [List.length_append]; exact h), List.take_of_length_le (Nat.le_of_lt h), List.flatMap_append]
  simp
theorem flt_ge {ps : List (Int32 × Int32)} (h : 2048 ≤ ps.length) (q : Int32 × Int32) : flt (ps ++ [q]) = flt ps := by
  unfold flt
  rw [List.take_append_of_le_length h]
theorem flt_len (ps : List (Int32 × Int32)) : (flt ps).length = 2 * min 2048 ps.length := by
  have h : ∀ qs : List (Int32 × Int32), (qs.flatMap (fun q => [q.1, q.2])).length = 2 * qs.length := by
    intro qs
    induction qs with
    | nil => rfl
    | cons a t ih => rw [List.flatMap_cons, List.length_append, ih, List.length_cons]; simp; omega
  unfold flt
  rw [h, List.length_take]
theorem app_any (l : Launch) (G : Gl) (w : World) {x L E F Gd cF : Nat} {bs : List Bx} {rs : List Int32} (hD : DAt G w x L E F Gd bs rs cF) (h4 : rs.length < 4096) (v : Int32) : ∃ (mc ms c1 : Nat) (g : Nat → Int32), w F = some (.inl (G.2.1.1, cF, .inl g)) ∧ GnV l y_B_append ws_B_append 3 mc ms G w [.ref x, .int v] (fun w1 => AppQ G w w1 x L F Gd rs.length c1 v g) ∧ rs.length + 1 ≤ c1 ∧ 16 ≤ c1 ∧ c1 ≤ 4096 ∧ ∀ ce sl : Nat, Use cF ce sl → Use c1 (ce + mc) (sl + ms) := by
  obtain ⟨hB, -, ⟨g, hF, -⟩, -, hc1, hc2, hc3⟩ := hD
  by_cases h : rs.length < cF
  · exact ⟨0, 0, cF, g, hF, k_B_append0 l G w hB hF v h hc3, h, hc2, hc3, fun ce sl hU => hU⟩
  · refine ⟨1, min (2 * cF) 4096, min (2 * cF) 4096, g, hF, k_B_append1 l G w hB hF v _ (by omega) (by omega) (by omega) rfl, by omega, by omega, by omega, fun ce sl hU => ?_⟩
    unfold Use at hU ⊢
    omega

set_option maxHeartbeats 4000000 in
set_option maxRecDepth 100000 in
theorem k_B_pairs (l : Launch) (G : Gl) (w : World) {x L E F Gd cF : Nat} {bs : List Bx} {rs : List Int32} (hD : DAt G w x L E F Gd bs rs cF) (hln : bs.length ≤ 4096) :
    GnI l y_B_pairs ws_B_pairs 6 260 12300 G w [.ref x] (fun r w1 => r = nI (prs bs).length ∧ DQ G w w1 x L E F Gd bs (flt (prs bs)) (fun _ => True)) := by
  refine met_ent (by decide +kernel) (Nat.le_of_ble_eq_true rfl) (fun p e s m below meth c ls C0 hr hin hH hl => ?_)
  have hx := C0.1
  have hb := C0.2.1
  have hS : va_S (gA G) s.heap s.heap [] := va_S.rf
  have hA : ∀ q : Nat, s.heap.size ≤ q → gA G q := fun q h => Nat.le_trans C0.ev.2.2.2.2.2.2.2.2.2.2.2.2 h
  have hl : lv_has ls 6 [(0, .ref x)] := hl
  obtain ⟨hB, ⟨N, f, md, hLs, hN0⟩, ⟨g, hF, hg⟩, ⟨cG, d, hGd, hcG⟩, hc1, hc2, hc3⟩ := id hD
  obtain ⟨hL1, hL2, hL3, hL4, hL5⟩ := id hLs
  have h00 := ge0_none C0 hH
  refine lv_aload_n hx hb d_B_pairs_0 rfl (lv_at hl 0 rfl) ?_
  refine lv_iconst (v := 0) hx hb d_B_pairs_1 (by decide) ?_
  refine pf_B_20 C0 hH hS hB rfl rfl (Nat.le_of_ble_eq_true rfl) d_B_pairs_2 (fun H locs hH hS => ?_)
  obtain ⟨w1, ew1⟩ : ∃ z : World, z = va_up w x (some (.inr (2, [.ref L, .ref F, .int 0, .ref Gd]))) := ⟨_, rfl⟩
  have hH : Hw G w1 H := by rw [ew1]; exact hH
  have hw1_x : w1 x = some (.inr (2, [.ref L, .ref F, .int 0, .ref Gd])) := by rw [ew1]; exact va_up_self _ _ _
  refine lv_iconst (v := 0) hx hb d_B_pairs_5 (by decide) ?_
  refine lv_istore_n (lv' := [(1, .int 0), (0, .ref x)]) hx hb d_B_pairs_6 rfl hl (by decide) rfl (fun ls hl => ?_)
  refine lv_iconst (v := 0) hx hb d_B_pairs_7 (by decide) ?_
  refine lv_istore_n (lv' := [(2, .int 0), (1, .int 0), (0, .ref x)]) hx hb d_B_pairs_8 rfl hl (by decide) rfl (fun ls hl => ?_)
  obtain ⟨hD3, hK3⟩ := DAt.res0 hD h00 ew1
  have loopO : ∀ (u i : Nat), i + u = bs.length → ∀ (w9 : World) (F9 cF9 ce sl : Nat) (acc : List Int32) (ps : List (Int32 × Int32)) (H : Heap) (locs : List Loc), Hw G w9 H → va_S (gA G) s.heap H locs → DAt G w9 x L E F9 Gd bs acc cF9 → Kp w w9 [x, F] → (F9 = F ∨ w F9 = none) → Use cF9 ce sl → acc = flt ps → ps.length ≤ 4096 * i → ps ++ prs (bs.drop i) = prs bs → ∀ ls : Array Slot, lv_has ls 6 [(0, .ref x), (1, .int (nI ps.length)), (2, .int (nI i))] → W p l e (rmK 6 260 12300) s m [.ref x].toArray below meth c H locs ce sl (MQ below (va_Qi (fun r w1 => r = nI (prs bs).length ∧ DQ G w w1 x L E F Gd bs (flt (prs bs)) (fun _ => True)) (Wo G) (gA G)) [.ref x].toArray s 260 12300 (gA G)) (F0 m 9 ls []) := by
    intro u
    induction u with
    | zero =>
      intro i hi w9 F9 cF9 ce sl acc ps H locs hH hS hD9 hK9 hFf hU hac hps hpe ls hl
      have hU0 := hU
      unfold Use at hU
      obtain ⟨hB9, ⟨N9, f9, md9, hLs9, hN9⟩, ⟨g9, hF9, hg9⟩, ⟨cG9, d9, hGd9, hcG9⟩, hc19, hc29, hc39⟩ := id hD9
      obtain ⟨hL19, hL29, hL39, hL49, hL59⟩ := id hLs9
      have h09 := ge0_none C0 hH
      refine lv_iload_n hx hb d_B_pairs_9 rfl (lv_at hl 2 rfl) ?_
      refine lv_aload_n hx hb d_B_pairs_10 rfl (lv_at hl 0 rfl) ?_
      refine gf_B_10 C0 hH hB9 rfl d_B_pairs_11 ?_
      refine pu_v (runV C0 (k_A_size l G w9 hL19) (cs_B_61 C0 ⟨Nat.le_of_ble_eq_true rfl, Nat.le_of_ble_eq_true rfl⟩) hH hS (hd_recv C0.hK hH rfl hL19) rfl hl.1 rfl (lv_room (Nat.le_of_ble_eq_true rfl)) d_B_pairs_14 ⟨by show _ ≤ 260; omega, by show _ ≤ 12300; omega⟩) ?_
      refine lv_icmp_ge (tgt := 111) hx hb d_B_pairs_17 (by decide) (fun c_17 => ?_) (fun c_17 => ?_)
      · have hfin : ps = prs bs := by rw [← hpe, List.drop_eq_nil_of_le (by omega), prs, List.append_nil]
        refine lv_iload_n hx hb d_B_pairs_111 rfl (lv_at hl 1 rfl) ?_
        refine W.widen (k := 260) (n := 12300) (by omega) (by omega) ?_
        exact W.iret hx hb hr (fun t ht hW => ⟨⟨(nI ps.length), w9, rfl, ⟨by rw [hfin], by rw [← hfin, ← hac]; exact ⟨E, F9, Gd, cF9, Or.inl rfl, hFf, Or.inl rfl, hD9, hK9.mono (fun b hb => Or.inl (by rcases List.mem_cons.mp hb with q | q; (· simp [q]); (· simp [List.mem_singleton.mp q]))), trivial⟩⟩, Wo.at C0.ev hH hS ht hW⟩, hS.F ht⟩) hS.2.2 d_B_pairs_112 (hlocks := C0.2.2.2.2.2.2)
      · exact absurd (nI_le (show bs.length ≤ i by omega) (by omega)) c_17
    | succ u iho =>
      intro i hi w9 F9 cF9 ce sl acc ps H locs hH hS hD9 hK9 hFf hU hac hps hpe ls hl
      have hU0 := hU
      unfold Use at hU
      obtain ⟨hB9, ⟨N9, f9, md9, hLs9, hN9⟩, ⟨g9, hF9, hg9⟩, ⟨cG9, d9, hGd9, hcG9⟩, hc19, hc29, hc39⟩ := id hD9
      obtain ⟨hL19, hL29, hL39, hL49, hL59⟩ := id hLs9
      have h09 := ge0_none C0 hH
      refine lv_iload_n hx hb d_B_pairs_9 rfl (lv_at hl 2 rfl) ?_
      refine lv_aload_n hx hb d_B_pairs_10 rfl (lv_at hl 0 rfl) ?_
      refine gf_B_10 C0 hH hB9 rfl d_B_pairs_11 ?_
      refine pu_v (runV C0 (k_A_size l G w9 hL19) (cs_B_61 C0 ⟨Nat.le_of_ble_eq_true rfl, Nat.le_of_ble_eq_true rfl⟩) hH hS (hd_recv C0.hK hH rfl hL19) rfl hl.1 rfl (lv_room (Nat.le_of_ble_eq_true rfl)) d_B_pairs_14 ⟨by show _ ≤ 260; omega, by show _ ≤ 12300; omega⟩) ?_
      refine lv_icmp_ge (tgt := 111) hx hb d_B_pairs_17 (by decide) (fun c_17 => ?_) (fun c_17 => ?_)
      · exact absurd c_17 (Int32.not_le.mpr (nI_lt (show i < bs.length by omega) (by omega)))
      · have hil : i < bs.length := by omega
        refine lv_aload_n hx hb d_B_pairs_20 rfl (lv_at hl 0 rfl) ?_
        refine gf_B_10 C0 hH hB9 rfl d_B_pairs_21 ?_
        refine lv_iload_n hx hb d_B_pairs_24 rfl (lv_at hl 2 rfl) ?_
        obtain ⟨xi, hf_xi, h_xi⟩ := hL59 i (hil)
        refine pu_v (runV C0 (k_A_get l G w9 hL19 (hLs9.arr (by omega)) (i := i) (by omega) hL29 (by omega) hf_xi) (cs_B_75 C0 ⟨Nat.le_of_ble_eq_true rfl, Nat.le_of_ble_eq_true rfl⟩) hH hS (hd_recv C0.hK hH rfl hL19) rfl hl.1 rfl (lv_room (Nat.le_of_ble_eq_true rfl)) d_B_pairs_25 ⟨by show _ ≤ 260; omega, by show _ ≤ 12300; omega⟩) ?_
        refine va_castY hx hb C0.2.2.2.1 (C0.2.2.2.2.1 _ mw_104) (C0.ev.2.2.2.2.2.2.1 (Cond.castable "BoxDrawer$Box" "BoxDrawer$Box") (by decide +kernel)) (hd_recv C0.hK hH rfl h_xi) d_B_pairs_28 ?_
        refine lv_astore_n (lv' := [(3, .ref xi), (0, .ref x), (1, .int (nI ps.length)), (2, .int (nI i))]) hx hb d_B_pairs_31 rfl hl (by decide) rfl (fun ls hl => ?_)
        refine lv_iload_n hx hb d_B_pairs_32 rfl (lv_at hl 3 rfl) ?_
        refine lv_iconst (v := 1) hx hb d_B_pairs_33 (by decide) ?_
        refine lv_iadd hx hb d_B_pairs_34 ?_
        refine lv_istore (lv' := [(4, .int ((nI i) + 1)), (3, .ref xi), (0, .ref x), (1, .int (nI ps.length)), (2, .int (nI i))]) hx hb d_B_pairs_35 hl (by decide) rfl (fun ls hl => ?_)
        have loopI : ∀ (u j : Nat), j + u = bs.length → ∀ (w9 : World) (F9 cF9 ce sl : Nat) (acc : List Int32) (ps : List (Int32 × Int32)) (H : Heap) (locs : List Loc), Hw G w9 H → va_S (gA G) s.heap H locs → DAt G w9 x L E F9 Gd bs acc cF9 → Kp w w9 [x, F] → (F9 = F ∨ w F9 = none) → Use cF9 ce sl → acc = flt ps → ps.length ≤ 4096 * i + j → w9 xi = some (.inr (1, bxf bs[i])) → ps ++ prI bs[i] (bs.drop j) ++ prs (bs.drop (i + 1)) = prs bs → ∀ ls : Array Slot, lv_has ls 6 [(0, .ref x), (1, .int (nI ps.length)), (2, .int (nI i)), (3, .ref xi), (4, .int (nI j))] → W p l e (rmK 6 260 12300) s m [.ref x].toArray below meth c H locs ce sl (MQ below (va_Qi (fun r w1 => r = nI (prs bs).length ∧ DQ G w w1 x L E F Gd bs (flt (prs bs)) (fun _ => True)) (Wo G) (gA G)) [.ref x].toArray s 260 12300 (gA G)) (F0 m 37 ls []) := by
          intro u
          induction u with
          | zero =>
            intro j hj w9 F9 cF9 ce sl acc ps H locs hH hS hD9 hK9 hFf hU hac hps hxi hpe ls hl
            have hU0 := hU
            unfold Use at hU
            obtain ⟨hB9, ⟨N9, f9, md9, hLs9, hN9⟩, ⟨g9, hF9, hg9⟩, ⟨cG9, d9, hGd9, hcG9⟩, hc19, hc29, hc39⟩ := id hD9
            obtain ⟨hL19, hL29, hL39, hL49, hL59⟩ := id hLs9
            have h09 := ge0_none C0 hH
            refine lv_iload hx hb d_B_pairs_37 (lv_at hl 4 rfl) ?_
            refine lv_aload_n hx hb d_B_pairs_39 rfl (lv_at hl 0 rfl) ?_
            refine gf_B_10 C0 hH hB9 rfl d_B_pairs_40 ?_
            refine pu_v (runV C0 (k_A_size l G w9 hL19) (cs_B_61 C0 ⟨Nat.le_of_ble_eq_true rfl, Nat.le_of_ble_eq_true rfl⟩) hH hS (hd_recv C0.hK hH rfl hL19) rfl hl.1 rfl (lv_room (Nat.le_of_ble_eq_true rfl)) d_B_pairs_43 ⟨by show _ ≤ 260; omega, by show _ ≤ 12300; omega⟩) ?_
            refine lv_icmp_ge (tgt := 105) hx hb d_B_pairs_46 (by decide) (fun c_46 => ?_) (fun c_46 => ?_)
            · obtain ⟨y_1, ey_1⟩ : ∃ z : Int32, z = (nI i) + 1 := ⟨_, rfl⟩
              refine lv_iinc (v := y_1) (lv' := [(2, .int y_1), (0, .ref x), (1, .int (nI ps.length)), (3, .ref xi), (4, .int (nI j))]) hx hb d_B_pairs_105 hl (k := 2) rfl (by rw [ey_1]; rfl) (by decide) rfl (fun ls hl => ?_)
              refine lv_goto (tgt := 9) hx hb d_B_pairs_108 (by decide) ?_
              rw [show y_1 = nI (i + 1) from by rw [ey_1]; exact nI_1 i] at hl
              exact iho (i + 1) (by omega) w9 F9 cF9 ce sl acc ps H locs hH hS hD9 hK9 hFf hU0 hac (by omega) (by rw [← hpe, show bs.drop j = [] from List.drop_eq_nil_of_le (by omega), prI, List.append_nil]) ls (lv_sub hl [1, 2, 0] rfl)
            · exact absurd (nI_le (show bs.length ≤ j by omega) (by omega)) c_46
          | succ u ih =>
            intro j hj w9 F9 cF9 ce sl acc ps H locs hH hS hD9 hK9 hFf hU hac hps hxi hpe ls hl
            have hU0 := hU
            unfold Use at hU
            obtain ⟨hB9, ⟨N9, f9, md9, hLs9, hN9⟩, ⟨g9, hF9, hg9⟩, ⟨cG9, d9, hGd9, hcG9⟩, hc19, hc29, hc39⟩ := id hD9
            obtain ⟨hL19, hL29, hL39, hL49, hL59⟩ := id hLs9
            have h09 := ge0_none C0 hH
            refine lv_iload hx hb d_B_pairs_37 (lv_at hl 4 rfl) ?_
            refine lv_aload_n hx hb d_B_pairs_39 rfl (lv_at hl 0 rfl) ?_
            refine gf_B_10 C0 hH hB9 rfl d_B_pairs_40 ?_
            refine pu_v (runV C0 (k_A_size l G w9 hL19) (cs_B_61 C0 ⟨Nat.le_of_ble_eq_true rfl, Nat.le_of_ble_eq_true rfl⟩) hH hS (hd_recv C0.hK hH rfl hL19) rfl hl.1 rfl (lv_room (Nat.le_of_ble_eq_true rfl)) d_B_pairs_43 ⟨by show _ ≤ 260; omega, by show _ ≤ 12300; omega⟩) ?_
            refine lv_icmp_ge (tgt := 105) hx hb d_B_pairs_46 (by decide) (fun c_46 => ?_) (fun c_46 => ?_)
            · exact absurd c_46 (Int32.not_le.mpr (nI_lt (show j < bs.length by omega) (by omega)))
            · have hjl : j < bs.length := by omega
              refine lv_aload_n hx hb d_B_pairs_49 rfl (lv_at hl 0 rfl) ?_
              refine gf_B_10 C0 hH hB9 rfl d_B_pairs_50 ?_
              refine lv_iload hx hb d_B_pairs_53 (lv_at hl 4 rfl) ?_
              obtain ⟨xj, hf_xj, h_xj⟩ := hL59 j (hjl)
              refine pu_v (runV C0 (k_A_get l G w9 hL19 (hLs9.arr (by omega)) (i := j) (by omega) hL29 (by omega) hf_xj) (cs_B_75 C0 ⟨Nat.le_of_ble_eq_true rfl, Nat.le_of_ble_eq_true rfl⟩) hH hS (hd_recv C0.hK hH rfl hL19) rfl hl.1 rfl (lv_room (Nat.le_of_ble_eq_true rfl)) d_B_pairs_55 ⟨by show _ ≤ 260; omega, by show _ ≤ 12300; omega⟩) ?_
              refine va_castY hx hb C0.2.2.2.1 (C0.2.2.2.2.1 _ mw_104) (C0.ev.2.2.2.2.2.2.1 (Cond.castable "BoxDrawer$Box" "BoxDrawer$Box") (by decide +kernel)) (hd_recv C0.hK hH rfl h_xj) d_B_pairs_58 ?_
              refine lv_astore (lv' := [(5, .ref xj), (0, .ref x), (1, .int (nI ps.length)), (2, .int (nI i)), (3, .ref xi), (4, .int (nI j))]) hx hb d_B_pairs_61 hl (by decide) rfl (fun ls hl => ?_)
              refine lv_aload_n hx hb d_B_pairs_63 rfl (lv_at hl 4 rfl) ?_
              refine lv_aload hx hb d_B_pairs_64 (lv_at hl 0 rfl) ?_
              refine pu_v (runVN C0 (k_X_meets l G w9 hxi h_xj) (cs_B_114 C0 ⟨Nat.le_of_ble_eq_true rfl, Nat.le_of_ble_eq_true rfl⟩) hH hS (hd_recv C0.hK hH rfl hxi) rfl hl.1 rfl (lv_room (Nat.le_of_ble_eq_true rfl)) d_B_pairs_66 ⟨by show _ ≤ 260; omega, by show _ ≤ 12300; omega⟩) ?_
              refine lv_if_eq (tgt := 99) hx hb d_B_pairs_69 (by decide) (fun c_69 => ?_) (fun c_69 => ?_)
              · obtain ⟨y_2, ey_2⟩ : ∃ z : Int32, z = (nI j) + 1 := ⟨_, rfl⟩
                refine lv_iinc (v := y_2) (lv' := [(4, .int y_2), (5, .ref xj), (0, .ref x), (1, .int (nI ps.length)), (2, .int (nI i)), (3, .ref xi)]) hx hb d_B_pairs_99 hl (k := 5) rfl (by rw [ey_2]; rfl) (by decide) rfl (fun ls hl => ?_)
                refine lv_goto (tgt := 37) hx hb d_B_pairs_102 (by decide) ?_
                rw [show y_2 = nI (j + 1) from by rw [ey_2]; exact nI_1 j] at hl
                exact ih (j + 1) (by omega) w9 F9 cF9 ce sl acc ps H locs hH hS hD9 hK9 hFf hU0 hac (by omega) hxi (by rw [← hpe, List.drop_eq_getElem_cons (i := j) hjl, prI, if_pos c_69]) ls (lv_sub hl [2, 3, 4, 5, 0] rfl)
              · refine lv_iload_n hx hb d_B_pairs_72 rfl (lv_at hl 2 rfl) ?_
                refine lv_sipush (v := 2048) hx hb d_B_pairs_73 (by decide) ?_
                refine lv_icmp_ge (tgt := 96) hx hb d_B_pairs_76 (by decide) (fun c_76 => ?_) (fun c_76 => ?_)
                · have hge9 : 2048 ≤ ps.length := Nat.le_of_not_lt (fun h => absurd c_76 (Int32.not_le.mpr (show nI ps.length < nI 2048 from nI_lt h (by decide))))
                  obtain ⟨y_3, ey_3⟩ : ∃ z : Int32, z = (nI ps.length) + 1 := ⟨_, rfl⟩
                  refine lv_iinc (v := y_3) (lv' := [(1, .int y_3), (5, .ref xj), (0, .ref x), (2, .int (nI i)), (3, .ref xi), (4, .int (nI j))]) hx hb d_B_pairs_96 hl (k := 2) rfl (by rw [ey_3]; rfl) (by decide) rfl (fun ls hl => ?_)
                  obtain ⟨y_4, ey_4⟩ : ∃ z : Int32, z = (nI j) + 1 := ⟨_, rfl⟩
                  refine lv_iinc (v := y_4) (lv' := [(4, .int y_4), (1, .int y_3), (5, .ref xj), (0, .ref x), (2, .int (nI i)), (3, .ref xi)]) hx hb d_B_pairs_99 hl (k := 5) rfl (by rw [ey_4]; rfl) (by decide) rfl (fun ls hl => ?_)
                  refine lv_goto (tgt := 37) hx hb d_B_pairs_102 (by decide) ?_
                  rw [show y_4 = nI (j + 1) from by rw [ey_4]; exact nI_1 j] at hl
                  rw [show y_3 = nI (ps ++ [(bs[i].1, bs[j].1)]).length from by rw [ey_3, List.length_append]; exact nI_1 _] at hl
                  exact ih (j + 1) (by omega) w9 F9 cF9 ce sl acc (ps ++ [(bs[i].1, bs[j].1)]) H locs hH hS hD9 hK9 hFf hU0 (by rw [hac]; exact (flt_ge hge9 _).symm) (by rw [List.length_append]; have : [(bs[i].1, bs[j].1)].length = 1 := rfl; omega) hxi (by rw [← hpe, List.drop_eq_getElem_cons (i := j) hjl, prI, if_neg c_69]; simp) ls (lv_sub hl [3, 1, 4, 5, 0] rfl)
                · have hlt9 : ps.length < 2048 := Nat.not_le.mp (fun h => c_76 (show nI 2048 ≤ nI ps.length from nI_le h (by omega)))
                  have hal := flt_len ps
                  rw [← hac] at hal
                  refine lv_aload_n hx hb d_B_pairs_79 rfl (lv_at hl 1 rfl) ?_
                  refine lv_aload_n hx hb d_B_pairs_80 rfl (lv_at hl 4 rfl) ?_
                  refine gf_B_82 C0 hH hxi rfl d_B_pairs_81 ?_
                  obtain ⟨mc8, ms8, c8, g8, hF8w, hA8, hc81, hc82, hc83, hU8⟩ := app_any l G w9 hD9 (by omega) ((bs[i]).1)
                  have hU8 := hU8 _ _ hU0
                  have hU80 := hU8
                  unfold Use at hU8
                  refine gn_v (runV C0 (hA8) (cs_B_85 C0 ⟨Nat.le_of_ble_eq_true rfl, Nat.le_of_ble_eq_true rfl⟩) hH hS (hd_recv C0.hK hH rfl hB9) rfl hl.1 rfl (lv_room (Nat.le_of_ble_eq_true rfl)) d_B_pairs_84 ⟨by show _ ≤ 260; omega, by show _ ≤ 12300; omega⟩) hS (fun w2 H locs hp2 hH hS => ?_)
                  obtain ⟨F8, hF8, hD8, hK8⟩ := hD9.app h09 hF8w hp2 hc81 hc82 hc83
                  have h08 := ge0_none C0 hH
                  have hB8 := hD8.1
                  have hxi8 := hK8 _ _ hxi (m2 (wne hxi hB9 (by simp)) (wne hxi hF9 (by simp)))
                  have hxj8 := hK8 _ _ h_xj (m2 (wne h_xj hB9 (by simp)) (wne h_xj hF9 (by simp)))
                  refine lv_aload_n hx hb d_B_pairs_87 rfl (lv_at hl 1 rfl) ?_
                  refine lv_aload hx hb d_B_pairs_88 (lv_at hl 0 rfl) ?_
                  refine gf_B_82 C0 hH hxj8 rfl d_B_pairs_90 ?_
                  have hl8 : (acc ++ [bs[i].1]).length = acc.length + 1 := by rw [List.length_append]; rfl
                  obtain ⟨mc7, ms7, c7, g7, hF7w, hA7, hc71, hc72, hc73, hU7⟩ := app_any l G w2 hD8 (by omega) ((bs[j]).1)
                  have hU7 := hU7 _ _ hU80
                  have hU70 := hU7
                  unfold Use at hU7
                  refine gn_v (runV C0 (hA7) (cs_B_85 C0 ⟨Nat.le_of_ble_eq_true rfl, Nat.le_of_ble_eq_true rfl⟩) hH hS (hd_recv C0.hK hH rfl hB8) rfl hl.1 rfl (lv_room (Nat.le_of_ble_eq_true rfl)) d_B_pairs_93 ⟨by show _ ≤ 260; omega, by show _ ≤ 12300; omega⟩) hS (fun w3 H locs hp3 hH hS => ?_)
                  obtain ⟨F7, hF7, hD7, hK7⟩ := hD8.app h08 hF7w hp3 hc71 hc72 hc73
                  have hU7 := hU70
                  have hF78 : F7 = F9 ∨ w9 F7 = none := hF7.elim (fun q => by rw [q]; exact hF8) (fun q => (kp_none hK8 hB9 q hB8 hF7w hF8).symm)
                  have hK78 : Kp w9 w3 [x, F9] := hK8.trans hK7 (fun b hb => by
                    rcases List.mem_cons.mp hb with q | q
                    · exact Or.inl (by simp [q])
                    · rw [List.mem_singleton.mp q]; exact hF8.imp (fun h => by simp [h]) id)
                  obtain ⟨y_5, ey_5⟩ : ∃ z : Int32, z = (nI ps.length) + 1 := ⟨_, rfl⟩
                  refine lv_iinc (v := y_5) (lv' := [(1, .int y_5), (5, .ref xj), (0, .ref x), (2, .int (nI i)), (3, .ref xi), (4, .int (nI j))]) hx hb d_B_pairs_96 hl (k := 2) rfl (by rw [ey_5]; rfl) (by decide) rfl (fun ls hl => ?_)
                  obtain ⟨y_6, ey_6⟩ : ∃ z : Int32, z = (nI j) + 1 := ⟨_, rfl⟩
                  refine lv_iinc (v := y_6) (lv' := [(4, .int y_6), (1, .int y_5), (5, .ref xj), (0, .ref x), (2, .int (nI i)), (3, .ref xi)]) hx hb d_B_pairs_99 hl (k := 5) rfl (by rw [ey_6]; rfl) (by decide) rfl (fun ls hl => ?_)
                  refine lv_goto (tgt := 37) hx hb d_B_pairs_102 (by decide) ?_
                  rw [show y_6 = nI (j + 1) from by rw [ey_6]; exact nI_1 j] at hl
                  rw [show y_5 = nI (ps ++ [(bs[i].1, bs[j].1)]).length from by rw [ey_5, List.length_append]; exact nI_1 _] at hl
                  refine ih (j + 1) (by omega) w3 F7 _ _ _ _ (ps ++ [(bs[i].1, bs[j].1)]) H locs hH hS hD7 (hK9.trans hK78 (fun b hb => ?_)) (hF78.elim (fun q => by rw [q]; exact hFf) (fun q => (kp_none hK9 hB q hB9 hF9 hFf).symm)) hU7 (by rw [hac]; exact (flt_lt hlt9 _ _).symm) (by rw [List.length_append]; have : [(bs[i].1, bs[j].1)].length = 1 := rfl; omega) (hK78 _ _ hxi (m2 (wne hxi hB9 (by simp)) (wne hxi hF9 (by simp)))) (by rw [← hpe, List.drop_eq_getElem_cons (i := j) hjl, prI, if_neg c_69]; simp) ls (lv_sub hl [3, 1, 4, 5, 0] rfl)
                  rcases List.mem_cons.mp hb with q | q
                  · exact Or.inl (by simp [q])
                  · rw [List.mem_singleton.mp q]; exact hFf.imp (fun h => by simp [h]) id
        rw [show nI i + 1 = nI (i + 1) from nI_1 i] at hl
        exact loopI (bs.length - (i + 1)) (i + 1) (by omega) w9 F9 cF9 ce sl acc ps H locs hH hS hD9 hK9 hFf hU0 hac (by omega) h_xi (by rw [← hpe, List.drop_eq_getElem_cons hil, prs, List.append_assoc]) ls (lv_sub hl [2, 3, 4, 1, 0] rfl)
  exact loopO bs.length 0 (by omega) w1 F cF _ _ [] [] H locs hH hS hD3 hK3 (Or.inl rfl) (by unfold Use; omega) rfl (Nat.le_refl _) rfl ls (lv_sub hl [2, 1, 0] rfl)
end
section
/-! the row ordered by distance -/
/-- i is behind all that are not farther than v -/
def Ub (d : Nat → Int64) (m : Nat) (v : Int64) (i : Nat) : Prop := i ≤ m ∧ (∀ j : Nat, j < i → d j ≤ v) ∧ ∀ j : Nat, i ≤ j → j < m → v < d j
theorem i64_nlt {a b : Int64} : ¬ a < b ↔ b ≤ a := Int64.not_lt
theorem Ub.uniq {d : Nat → Int64} {m : Nat} {v : Int64} {i j : Nat} (h1 : Ub d m v i) (h2 : Ub d m v j) : i = j := by
  obtain ⟨a1, a2, a3⟩ := h1
  obtain ⟨b1, b2, b3⟩ := h2
  rcases Nat.lt_trichotomy i j with h | h | h
  · exact absurd (a3 i (Nat.le_refl _) (by omega)) (i64_nlt.mpr (b2 i h))
  · exact h
  · exact absurd (b3 j (Nat.le_refl _) (by omega)) (i64_nlt.mpr (a2 j h))
def SrN (d : Nat → Int64) (m : Nat) : Prop := ∀ i j : Nat, i < j → j < m → d i ≤ d j
theorem i64_tr {a b c : Int64} (h1 : a ≤ b) (h2 : b ≤ c) : a ≤ c := Int64.le_iff_toInt_le.mpr (Int.le_trans (Int64.le_iff_toInt_le.mp h1) (Int64.le_iff_toInt_le.mp h2))
theorem i64_ltr {a b c : Int64} (h1 : a < b) (h2 : b ≤ c) : a < c := Int64.lt_iff_toInt_lt.mpr (Int.lt_of_lt_of_le (Int64.lt_iff_toInt_lt.mp h1) (Int64.le_iff_toInt_le.mp h2))

set_option maxHeartbeats 4000000 in
set_option maxRecDepth 100000 in
theorem k_B_indexBehind (l : Launch) (G : Gl) (w : World) {x L F Gd mN cG : Nat} {d : Nat → Int64} (hB : w x = some (.inr (2, [.ref L, .ref F, .int (nI mN), .ref Gd]))) (hGd : w Gd = some (.inl (G.2.1.2.1, cG, .inr (.inl d)))) (v : Int64) (i : Nat) (h1 : mN ≤ cG) (h2 : cG ≤ 4096) (hs : SrN d mN) (hi : Ub d mN v i) :
    PuM l y_B_indexBehind ws_B_indexBehind 1 G w [.ref x, .long v] (some (.int (nI i))) := by
  refine met_ent (by decide +kernel) (Nat.le_of_ble_eq_true rfl) (fun p e s m below meth c ls C0 hr hin hH hl => ?_)
  have hx := C0.1
  have hb := C0.2.1
  have hS : va_S (gA G) s.heap s.heap [] := va_S.rf
  have hA : ∀ q : Nat, s.heap.size ≤ q → gA G q := fun q h => Nat.le_trans C0.ev.2.2.2.2.2.2.2.2.2.2.2.2 h
  have hl : lv_has ls 6 [(0, .ref x), (1, .long v)] := hl
  refine lv_iconst (v := 0) hx hb d_B_indexBehind_0 (by decide) ?_
  refine lv_istore_n (lv' := [(3, .int 0), (0, .ref x), (1, .long v)]) hx hb d_B_indexBehind_1 rfl hl (by decide) rfl (fun ls hl => ?_)
  refine lv_aload_n hx hb d_B_indexBehind_2 rfl (lv_at hl 1 rfl) ?_
  refine gf_B_20 C0 hH hB rfl d_B_indexBehind_3 ?_
  refine lv_aload_n hx hb d_B_indexBehind_6 rfl (lv_at hl 1 rfl) ?_
  refine gf_B_24 C0 hH hB rfl d_B_indexBehind_7 ?_
  refine hd_alen hx hb C0.hK hH 1 hGd rfl (v := nI cG) rfl d_B_indexBehind_10 ?_
  refine va_mmin hx hb (C0.2.2.1.trans hl.1.symm) C0.2.2.2.1 (C0.2.2.2.2.1 _ mw_121) (C0.2.2.2.2.1 _ mw_122) (C0.2.2.2.2.1 _ mw_19) (C0.2.2.2.2.1 _ mw_123) (Nat.le_of_ble_eq_true rfl) (Nat.le_of_ble_eq_true rfl) (by show _ ≤ 0; omega) (by show _ ≤ 0; omega) d_B_indexBehind_11 ?_
  rw [show (if (nI cG) < (nI mN) then (nI cG) else (nI mN)) = nI mN from ((min_nI (by omega) (by omega)).trans (by rw [Nat.min_eq_left (by omega)]))]
  refine lv_istore (lv' := [(4, .int (nI mN)), (3, .int 0), (0, .ref x), (1, .long v)]) hx hb d_B_indexBehind_14 hl (by decide) rfl (fun ls hl => ?_)
  have loop : ∀ (u fr to : Nat), to < fr + u → fr ≤ to → to ≤ mN → (∀ j : Nat, j < fr → d j ≤ v) → (∀ j : Nat, to ≤ j → j < mN → v < d j) → ∀ ls : Array Slot, lv_has ls 6 [(0, .ref x), (1, .long v), (3, .int (nI fr)), (4, .int (nI to))] → W p l e (rmK 1 0 0) s m [.ref x, .long v].toArray below meth c s.heap [] 0 0 (MQ below (PuQ (some (.int (nI i)))) [.ref x, .long v].toArray s 0 0 (fun _ => False)) (F0 m 16 ls []) := by
    intro u
    induction u with
    | zero => intro fr to h1 h2; exact absurd h1 (by omega)
    | succ u ih =>
      intro fr to hu hft htl hlo hhi ls hl
      refine lv_iload_n hx hb d_B_indexBehind_16 rfl (lv_at hl 2 rfl) ?_
      refine lv_iload hx hb d_B_indexBehind_17 (lv_at hl 3 rfl) ?_
      refine lv_icmp_ge (tgt := 57) hx hb d_B_indexBehind_19 (by decide) (fun c_19 => ?_) (fun c_19 => ?_)
      · refine lv_iload_n hx hb d_B_indexBehind_57 rfl (lv_at hl 2 rfl) ?_
        exact W.iret hx hb hr (fun t ht _ => ⟨congrArg (fun z => Outcome.returned (some (Value.int z))) (congrArg nI (Ub.uniq ⟨Nat.le_trans hft htl, hlo, fun j h1 h3 => hhi j (Nat.le_trans (Nat.le_of_not_lt (fun h4 => absurd c_19 (Int32.not_le.mpr (nI_lt h4 (by omega))))) h1) h3⟩ hi)), ht⟩) (fun _ h => by cases h) d_B_indexBehind_58 (hlocks := C0.2.2.2.2.2.2)
      · have hlt : fr < to := Nat.not_le.mp (fun h => c_19 (nI_le h (by omega)))
        refine lv_iload_n hx hb d_B_indexBehind_22 rfl (lv_at hl 2 rfl) ?_
        refine lv_iload hx hb d_B_indexBehind_23 (lv_at hl 3 rfl) ?_
        refine lv_iadd hx hb d_B_indexBehind_25 ?_
        refine lv_iconst (v := 1) hx hb d_B_indexBehind_26 (by decide) ?_
        refine lv_iushr hx hb d_B_indexBehind_27 (mid_v (by omega)) ?_
        refine lv_istore (lv' := [(5, .int (nI ((fr + to) / 2))), (0, .ref x), (1, .long v), (3, .int (nI fr)), (4, .int (nI to))]) hx hb d_B_indexBehind_28 hl (by decide) rfl (fun ls hl => ?_)
        refine lv_aload_n hx hb d_B_indexBehind_30 rfl (lv_at hl 1 rfl) ?_
        refine gf_B_24 C0 hH hB rfl d_B_indexBehind_31 ?_
        refine lv_iload hx hb d_B_indexBehind_34 (lv_at hl 0 rfl) ?_
        refine hd_lald hx hb C0.hK hH 1 hGd rfl (vp_in_nI (by omega) (by omega)) d_B_indexBehind_36 ?_
        rw [nI_clamp (by omega)]
        refine lv_lload_n hx hb d_B_indexBehind_37 rfl (lv_at hl 2 rfl) ?_
        refine W.lcmp hx hb d_B_indexBehind_38 ?_
        refine lv_if_gt (tgt := 50) hx hb d_B_indexBehind_39 (by decide) (fun c_39 => ?_) (fun c_39 => ?_)
        · refine lv_iload hx hb d_B_indexBehind_50 (lv_at hl 0 rfl) ?_
          refine lv_istore (lv' := [(4, .int (nI ((fr + to) / 2))), (5, .int (nI ((fr + to) / 2))), (0, .ref x), (1, .long v), (3, .int (nI fr))]) hx hb d_B_indexBehind_52 hl (by decide) rfl (fun ls hl => ?_)
          refine lv_goto (tgt := 16) hx hb d_B_indexBehind_54 (by decide) ?_
          refine ih fr ((fr + to) / 2) (by omega) (by omega) (by omega) hlo (fun j h2 h4 => ?_) ls (lv_sub hl [2, 3, 4, 0] rfl)
          have hm := (lg_cmp_gt _ _).mp c_39
          rcases Nat.lt_or_eq_of_le h2 with h3 | h3
          · exact i64_ltr hm (hs _ j h3 h4)
          · subst h3; exact hm
        · refine lv_iload hx hb d_B_indexBehind_42 (lv_at hl 0 rfl) ?_
          refine lv_iconst (v := 1) hx hb d_B_indexBehind_44 (by decide) ?_
          refine lv_iadd hx hb d_B_indexBehind_45 ?_
          rw [show ((nI ((fr + to) / 2)) + 1) = nI ((fr + to) / 2 + 1) from nI_1 _]
          refine lv_istore_n (lv' := [(3, .int (nI ((fr + to) / 2 + 1))), (5, .int (nI ((fr + to) / 2))), (0, .ref x), (1, .long v), (4, .int (nI to))]) hx hb d_B_indexBehind_46 rfl hl (by decide) rfl (fun ls hl => ?_)
          refine lv_goto (tgt := 54) hx hb d_B_indexBehind_47 (by decide) ?_
          refine lv_goto (tgt := 16) hx hb d_B_indexBehind_54 (by decide) ?_
          refine ih ((fr + to) / 2 + 1) to (by omega) (by omega) htl (fun j h2 => ?_) hhi ls (lv_sub hl [2, 3, 0, 4] rfl)
          have hm := i64_nlt.mp (fun q => c_39 ((lg_cmp_gt _ _).mpr q))
          rcases Nat.lt_or_eq_of_le (Nat.le_of_lt_succ h2) with h3 | h3
          · exact i64_tr (hs j _ h3 (by omega)) hm
          · subst h3; exact hm
  exact loop (mN + 1) 0 mN (by omega) (Nat.zero_le _) (Nat.le_refl _) (fun j h => absurd h (Nat.not_lt_zero _)) (fun j h h2 => absurd h2 (by omega)) ls (lv_sub hl [2, 3, 1, 0] rfl)

/-- (n, v) came to the place i of the row -/
def InsQ (G : Gl) (w w1 : World) (x L F Gd t cF cG i : Nat) (n : Int32) (v : Int64) (g : Nat → Int32) (d : Nat → Int64) : Prop := ∃ (g1 : Nat → Int32) (d1 : Nat → Int64), w1 x = some (.inr (2, [.ref L, .ref F, .int (nI (t + 1)), .ref Gd])) ∧ w1 F = some (.inl (G.2.1.1, cF, .inl g1)) ∧ w1 Gd = some (.inl (G.2.1.2.1, cG, .inr (.inl d1))) ∧ (∀ j : Nat, j < i → g1 j = g j ∧ d1 j = d j) ∧ g1 i = n ∧ d1 i = v ∧ (∀ j : Nat, i ≤ j → j < t → g1 (j + 1) = g j ∧ d1 (j + 1) = d j) ∧ Kp w w1 [x, F, Gd]
theorem ins_g {g : Nat → Int32} {i t : Nat} (n : Int32) (hi : i ≤ t) : (∀ j : Nat, j < i → upd (va_cpy g g i (i + 1) (t - i)) i n j = g j) ∧ upd (va_cpy g g i (i + 1) (t - i)) i n i = n ∧ ∀ j : Nat, i ≤ j → j < t → upd (va_cpy g g i (i + 1) (t - i)) i n (j + 1) = g j := by
  refine ⟨fun j hj => ?_, by simp [upd], fun j h1 h2 => ?_⟩
  · rw [upd, if_neg (by omega), pk_cpy_out (by omega)]
  · rw [upd, if_neg (by omega), pk_cpy_in (by omega) (by omega), show i + (j + 1 - (i + 1)) = j by omega]
theorem ins_d {d : Nat → Int64} {i t : Nat} (v : Int64) (hi : i ≤ t) : (∀ j : Nat, j < i → vp_updL (va_cpy d d i (i + 1) (t - i)) i v j = d j) ∧ vp_updL (va_cpy d d i (i + 1) (t - i)) i v i = v ∧ ∀ j : Nat, i ≤ j → j < t → vp_updL (va_cpy d d i (i + 1) (t - i)) i v (j + 1) = d j := by
  refine ⟨fun j hj => ?_, by simp [vp_updL], fun j h1 h2 => ?_⟩
  · rw [vp_updL, if_neg (by omega), pk_cpy_out (by omega)]
  · rw [vp_updL, if_neg (by omega), pk_cpy_in (by omega) (by omega), show i + (j + 1 - (i + 1)) = j by omega]

set_option maxHeartbeats 4000000 in
set_option maxRecDepth 100000 in
theorem k_B_insD1 (l : Launch) (G : Gl) (w : World) {x L F Gd mN cF cG : Nat} {g : Nat → Int32} {d : Nat → Int64} (hB : w x = some (.inr (2, [.ref L, .ref F, .int (nI mN), .ref Gd]))) (hF : w F = some (.inl (G.2.1.1, cF, .inl g))) (hGd : w Gd = some (.inl (G.2.1.2.1, cG, .inr (.inl d)))) (n : Int32) (v : Int64) (kk i : Nat) (h1 : mN ≤ cG) (h2 : cG ≤ 4096) (h3 : kk ≤ cF) (h4 : cF ≤ 4096) (h5 : kk ≤ cG) (h6 : mN ≤ kk) (hs : SrN d mN) (hi : Ub d mN v i) (hik : i < kk) :
    GnV l y_B_insertByDistance ws_B_insertByDistance 2 0 0 G w [.ref x, .int n, .long v, .int (nI kk)] (fun w1 => InsQ G w w1 x L F Gd (min mN (kk - 1)) cF cG i n v g d) := by
  refine met_ent (by decide +kernel) (Nat.le_of_ble_eq_true rfl) (fun p e s m below meth c ls C0 hr hin hH hl => ?_)
  have hx := C0.1
  have hb := C0.2.1
  have hS : va_S (gA G) s.heap s.heap [] := va_S.rf
  have hA : ∀ q : Nat, s.heap.size ≤ q → gA G q := fun q h => Nat.le_trans C0.ev.2.2.2.2.2.2.2.2.2.2.2.2 h
  have hl : lv_has ls 7 [(0, .ref x), (1, .int n), (2, .long v), (4, .int (nI kk))] := hl
  obtain ⟨t, ht⟩ : ∃ z : Nat, z = min mN (kk - 1) := ⟨_, rfl⟩
  have him := hi.1
  have hit : i ≤ t := by omega
  rw [← ht]
  refine lv_aload_n hx hb d_B_insertByDistance_0 rfl (lv_at hl 0 rfl) ?_
  refine lv_lload_n hx hb d_B_insertByDistance_1 rfl (lv_at hl 2 rfl) ?_
  refine pu_v (runV C0 (k_B_indexBehind l G w hB hGd v i h1 h2 hs hi) (cs_B_170 C0 ⟨Nat.le_of_ble_eq_true rfl, Nat.le_of_ble_eq_true rfl⟩) hH hS (hd_recv C0.hK hH rfl hB) rfl hl.1 rfl (lv_room (Nat.le_of_ble_eq_true rfl)) d_B_insertByDistance_2 ⟨by show _ ≤ 0; omega, by show _ ≤ 0; omega⟩) ?_
  refine lv_istore (lv' := [(5, .int (nI i)), (0, .ref x), (1, .int n), (2, .long v), (4, .int (nI kk))]) hx hb d_B_insertByDistance_5 hl (by decide) rfl (fun ls hl => ?_)
  refine lv_iload hx hb d_B_insertByDistance_7 (lv_at hl 0 rfl) ?_
  refine lv_iload hx hb d_B_insertByDistance_9 (lv_at hl 4 rfl) ?_
  refine lv_icmp_ge (tgt := 34) hx hb d_B_insertByDistance_11 (by decide) (fun c_11 => ?_) (fun c_11 => ?_)
  · exact absurd c_11 (Int32.not_le.mpr (nI_lt hik (by omega)))
  · refine lv_iload hx hb d_B_insertByDistance_14 (lv_at hl 4 rfl) ?_
    refine lv_aload_n hx hb d_B_insertByDistance_16 rfl (lv_at hl 1 rfl) ?_
    refine gf_B_16 C0 hH hB rfl d_B_insertByDistance_17 ?_
    refine hd_alen hx hb C0.hK hH 0 hF rfl (v := nI cF) rfl d_B_insertByDistance_20 ?_
    refine lv_icmp_gt (tgt := 34) hx hb d_B_insertByDistance_21 (by decide) (fun c_21 => ?_) (fun c_21 => ?_)
    · exact absurd (nI_le h3 (by omega)) (Int32.not_le.mpr c_21)
    · refine lv_iload hx hb d_B_insertByDistance_24 (lv_at hl 4 rfl) ?_
      refine lv_aload_n hx hb d_B_insertByDistance_26 rfl (lv_at hl 1 rfl) ?_
      refine gf_B_24 C0 hH hB rfl d_B_insertByDistance_27 ?_
      refine hd_alen hx hb C0.hK hH 1 hGd rfl (v := nI cG) rfl d_B_insertByDistance_30 ?_
      refine lv_icmp_le (tgt := 35) hx hb d_B_insertByDistance_31 (by decide) (fun c_31 => ?_) (fun c_31 => ?_)
      · refine lv_aload_n hx hb d_B_insertByDistance_35 rfl (lv_at hl 1 rfl) ?_
        refine gf_B_20 C0 hH hB rfl d_B_insertByDistance_36 ?_
        refine lv_iload hx hb d_B_insertByDistance_39 (lv_at hl 4 rfl) ?_
        refine lv_iconst (v := 1) hx hb d_B_insertByDistance_41 (by decide) ?_
        refine lv_isub hx hb d_B_insertByDistance_42 ?_
        rw [show ((nI kk) - 1) = nI (kk - 1) from pk_sub (show 1 ≤ kk by omega)]
        refine va_mmin hx hb (C0.2.2.1.trans hl.1.symm) C0.2.2.2.1 (C0.2.2.2.2.1 _ mw_121) (C0.2.2.2.2.1 _ mw_122) (C0.2.2.2.2.1 _ mw_19) (C0.2.2.2.2.1 _ mw_123) (Nat.le_of_ble_eq_true rfl) (Nat.le_of_ble_eq_true rfl) (by show _ ≤ 0; omega) (by show _ ≤ 0; omega) d_B_insertByDistance_43 ?_
        rw [show (if (nI (kk - 1)) < (nI mN) then (nI (kk - 1)) else (nI mN)) = nI t from ((min_nI (by omega) (by omega)).trans (by rw [ht]))]
        refine lv_istore (lv' := [(6, .int (nI t)), (5, .int (nI i)), (0, .ref x), (1, .int n), (2, .long v), (4, .int (nI kk))]) hx hb d_B_insertByDistance_46 hl (by decide) rfl (fun ls hl => ?_)
        refine lv_aload_n hx hb d_B_insertByDistance_48 rfl (lv_at hl 2 rfl) ?_
        refine gf_B_16 C0 hH hB rfl d_B_insertByDistance_49 ?_
        refine lv_iload hx hb d_B_insertByDistance_52 (lv_at hl 1 rfl) ?_
        refine lv_aload_n hx hb d_B_insertByDistance_54 rfl (lv_at hl 2 rfl) ?_
        refine gf_B_16 C0 hH hB rfl d_B_insertByDistance_55 ?_
        refine lv_iload hx hb d_B_insertByDistance_58 (lv_at hl 1 rfl) ?_
        refine lv_iconst (v := 1) hx hb d_B_insertByDistance_60 (by decide) ?_
        refine lv_iadd hx hb d_B_insertByDistance_61 ?_
        rw [show ((nI i) + 1) = nI (i + 1) from nI_1 i]
        refine lv_iload hx hb d_B_insertByDistance_62 (lv_at hl 0 rfl) ?_
        refine lv_iload hx hb d_B_insertByDistance_64 (lv_at hl 1 rfl) ?_
        refine lv_isub hx hb d_B_insertByDistance_66 ?_
        rw [show ((nI t) - (nI i)) = nI (t - i) from pk_sub (by omega)]
        refine hd_copyi hx hb (C0.2.2.1.trans hl.1.symm) C0.2.2.2.1 (C0.2.2.2.2.1 _ mw_621) (C0.2.2.2.2.1 _ mw_137) (C0.2.2.2.2.1 _ mw_136) (C0.2.2.2.2.1 _ mw_21) C0.hK hH hS 0 hF hF rfl (nI_pos (by omega)) (nI_pos (by omega)) (nI_pos (by omega)) (by rw [nI_clamp (by omega), nI_clamp (by omega)]; omega) (by rw [nI_clamp (by omega), nI_clamp (by omega)]; omega) (Nat.le_of_ble_eq_true rfl) (Nat.le_of_ble_eq_true rfl) d_B_insertByDistance_67 (fun H locs hH hS => ?_)
        rw [nI_clamp (by omega), nI_clamp (by omega), nI_clamp (by omega)] at hH
        obtain ⟨w1, ew1⟩ : ∃ z : World, z = va_up w F (some (.inl (G.2.1.1, cF, .inl (va_cpy g g i (i + 1) (t - i))))) := ⟨_, rfl⟩
        have hH : Hw G w1 H := by rw [ew1]; exact hH
        have hw1_x : w1 x = some (.inr (2, [.ref L, .ref F, .int (nI mN), .ref Gd])) := by rw [ew1, va_up_ne _ _ (wne hB hF (by simp))]; exact hB
        have hw1_Gd : w1 Gd = some (.inl (G.2.1.2.1, cG, .inr (.inl d))) := by rw [ew1, va_up_ne _ _ (wne hGd hF (by simp))]; exact hGd
        have hw1_F : w1 F = some (.inl (G.2.1.1, cF, .inl (va_cpy g g i (i + 1) (t - i)))) := by rw [ew1]; exact va_up_self _ _ _
        refine lv_aload_n hx hb d_B_insertByDistance_70 rfl (lv_at hl 2 rfl) ?_
        refine gf_B_24 C0 hH hw1_x rfl d_B_insertByDistance_71 ?_
        refine lv_iload hx hb d_B_insertByDistance_74 (lv_at hl 1 rfl) ?_
        refine lv_aload_n hx hb d_B_insertByDistance_76 rfl (lv_at hl 2 rfl) ?_
        refine gf_B_24 C0 hH hw1_x rfl d_B_insertByDistance_77 ?_
        refine lv_iload hx hb d_B_insertByDistance_80 (lv_at hl 1 rfl) ?_
        refine lv_iconst (v := 1) hx hb d_B_insertByDistance_82 (by decide) ?_
        refine lv_iadd hx hb d_B_insertByDistance_83 ?_
        rw [show ((nI i) + 1) = nI (i + 1) from nI_1 i]
        refine lv_iload hx hb d_B_insertByDistance_84 (lv_at hl 0 rfl) ?_
        refine lv_iload hx hb d_B_insertByDistance_86 (lv_at hl 1 rfl) ?_
        refine lv_isub hx hb d_B_insertByDistance_88 ?_
        rw [show ((nI t) - (nI i)) = nI (t - i) from pk_sub (by omega)]
        refine hd_copyl hx hb (C0.2.2.1.trans hl.1.symm) C0.2.2.2.1 (C0.2.2.2.2.1 _ mw_621) (C0.2.2.2.2.1 _ mw_137) (C0.2.2.2.2.1 _ mw_136) (C0.2.2.2.2.1 _ mw_21) C0.hK hH hS 1 hw1_Gd hw1_Gd rfl (nI_pos (by omega)) (nI_pos (by omega)) (nI_pos (by omega)) (by rw [nI_clamp (by omega), nI_clamp (by omega)]; omega) (by rw [nI_clamp (by omega), nI_clamp (by omega)]; omega) (Nat.le_of_ble_eq_true rfl) (Nat.le_of_ble_eq_true rfl) d_B_insertByDistance_89 (fun H locs hH hS => ?_)
        rw [nI_clamp (by omega), nI_clamp (by omega), nI_clamp (by omega)] at hH
        obtain ⟨w2, ew2⟩ : ∃ z : World, z = va_up w1 Gd (some (.inl (G.2.1.2.1, cG, .inr (.inl (va_cpy d d i (i + 1) (t - i)))))) := ⟨_, rfl⟩
        have hH : Hw G w2 H := by rw [ew2]; exact hH
        have hw2_x : w2 x = some (.inr (2, [.ref L, .ref F, .int (nI mN), .ref Gd])) := by rw [ew2, va_up_ne _ _ (wne hw1_x hw1_Gd (by simp))]; exact hw1_x
        have hw2_F : w2 F = some (.inl (G.2.1.1, cF, .inl (va_cpy g g i (i + 1) (t - i)))) := by rw [ew2, va_up_ne _ _ (wne hw1_F hw1_Gd (by simp))]; exact hw1_F
        have hw2_Gd : w2 Gd = some (.inl (G.2.1.2.1, cG, .inr (.inl (va_cpy d d i (i + 1) (t - i))))) := by rw [ew2]; exact va_up_self _ _ _
        refine lv_aload_n hx hb d_B_insertByDistance_92 rfl (lv_at hl 2 rfl) ?_
        refine gf_B_16 C0 hH hw2_x rfl d_B_insertByDistance_93 ?_
        refine lv_iload hx hb d_B_insertByDistance_96 (lv_at hl 1 rfl) ?_
        refine lv_iload_n hx hb d_B_insertByDistance_98 rfl (lv_at hl 3 rfl) ?_
        refine hd_iast hx hb C0.hK hH hS 0 hw2_F rfl (vp_in_nI (by omega) (by omega)) d_B_insertByDistance_99 (fun H locs hH hS => ?_)
        rw [nI_clamp (by omega)] at hH
        obtain ⟨w3, ew3⟩ : ∃ z : World, z = va_up w2 F (some (.inl (G.2.1.1, cF, .inl (upd (va_cpy g g i (i + 1) (t - i)) i n)))) := ⟨_, rfl⟩
        have hH : Hw G w3 H := by rw [ew3]; exact hH
        have hw3_x : w3 x = some (.inr (2, [.ref L, .ref F, .int (nI mN), .ref Gd])) := by rw [ew3, va_up_ne _ _ (wne hw2_x hw2_F (by simp))]; exact hw2_x
        have hw3_Gd : w3 Gd = some (.inl (G.2.1.2.1, cG, .inr (.inl (va_cpy d d i (i + 1) (t - i))))) := by rw [ew3, va_up_ne _ _ (wne hw2_Gd hw2_F (by simp))]; exact hw2_Gd
        have hw3_F : w3 F = some (.inl (G.2.1.1, cF, .inl (upd (va_cpy g g i (i + 1) (t - i)) i n))) := by rw [ew3]; exact va_up_self _ _ _
        refine lv_aload_n hx hb d_B_insertByDistance_100 rfl (lv_at hl 2 rfl) ?_
        refine gf_B_24 C0 hH hw3_x rfl d_B_insertByDistance_101 ?_
        refine lv_iload hx hb d_B_insertByDistance_104 (lv_at hl 1 rfl) ?_
        refine lv_lload_n hx hb d_B_insertByDistance_106 rfl (lv_at hl 4 rfl) ?_
        refine hd_last hx hb C0.hK hH hS 1 hw3_Gd rfl (vp_in_nI (by omega) (by omega)) d_B_insertByDistance_107 (fun H locs hH hS => ?_)
        rw [nI_clamp (by omega)] at hH
        obtain ⟨w4, ew4⟩ : ∃ z : World, z = va_up w3 Gd (some (.inl (G.2.1.2.1, cG, .inr (.inl (vp_updL (va_cpy d d i (i + 1) (t - i)) i v))))) := ⟨_, rfl⟩
        have hH : Hw G w4 H := by rw [ew4]; exact hH
        have hw4_x : w4 x = some (.inr (2, [.ref L, .ref F, .int (nI mN), .ref Gd])) := by rw [ew4, va_up_ne _ _ (wne hw3_x hw3_Gd (by simp))]; exact hw3_x
        have hw4_F : w4 F = some (.inl (G.2.1.1, cF, .inl (upd (va_cpy g g i (i + 1) (t - i)) i n))) := by rw [ew4, va_up_ne _ _ (wne hw3_F hw3_Gd (by simp))]; exact hw3_F
        have hw4_Gd : w4 Gd = some (.inl (G.2.1.2.1, cG, .inr (.inl (vp_updL (va_cpy d d i (i + 1) (t - i)) i v)))) := by rw [ew4]; exact va_up_self _ _ _
        refine lv_aload_n hx hb d_B_insertByDistance_108 rfl (lv_at hl 2 rfl) ?_
        refine lv_iload hx hb d_B_insertByDistance_109 (lv_at hl 0 rfl) ?_
        refine lv_iconst (v := 1) hx hb d_B_insertByDistance_111 (by decide) ?_
        refine lv_iadd hx hb d_B_insertByDistance_112 ?_
        rw [show ((nI t) + 1) = nI (t + 1) from nI_1 t]
        refine pf_B_20 C0 hH hS hw4_x rfl rfl (Nat.le_of_ble_eq_true rfl) d_B_insertByDistance_113 (fun H locs hH hS => ?_)
        obtain ⟨w5, ew5⟩ : ∃ z : World, z = va_up w4 x (some (.inr (2, [.ref L, .ref F, .int (nI (t + 1)), .ref Gd]))) := ⟨_, rfl⟩
        have hH : Hw G w5 H := by rw [ew5]; exact hH
        have hw5_F : w5 F = some (.inl (G.2.1.1, cF, .inl (upd (va_cpy g g i (i + 1) (t - i)) i n))) := by rw [ew5, va_up_ne _ _ (wne hw4_F hw4_x (by simp))]; exact hw4_F
        have hw5_Gd : w5 Gd = some (.inl (G.2.1.2.1, cG, .inr (.inl (vp_updL (va_cpy d d i (i + 1) (t - i)) i v)))) := by rw [ew5, va_up_ne _ _ (wne hw4_Gd hw4_x (by simp))]; exact hw4_Gd
        have hw5_x : w5 x = some (.inr (2, [.ref L, .ref F, .int (nI (t + 1)), .ref Gd])) := by rw [ew5]; exact va_up_self _ _ _
        refine W.widen (k := 0) (n := 0) (by omega) (by omega) ?_
        exact W.vret hx hb hr (fun t ht hW => ⟨⟨w5, rfl, (by obtain ⟨a1, a2, a3⟩ := ins_g (g := g) n hit; obtain ⟨b1, b2, b3⟩ := ins_d (d := d) v hit; exact ⟨_, _, hw5_x, hw5_F, hw5_Gd, fun j hj => ⟨a1 j hj, b1 j hj⟩, a2, b2, fun j h1 h2 => ⟨a3 j h1 h2, b3 j h1 h2⟩, by rw [ew5, ew4, ew3, ew2, ew1]; exact ((((Kp.up (Or.inl (by simp))).ups (Or.inl (by simp))).ups (Or.inl (by simp))).ups (Or.inl (by simp))).ups (Or.inl (by simp))⟩), Wo.at C0.ev hH hS ht hW⟩, hS.F ht⟩) hS.2.2 d_B_insertByDistance_116 (hlocks := C0.2.2.2.2.2.2)
      · exact absurd (nI_le h5 (by omega)) c_31

set_option maxHeartbeats 4000000 in
set_option maxRecDepth 100000 in
theorem k_B_insD0 (l : Launch) (G : Gl) (w : World) {x L F Gd mN cF cG : Nat} {g : Nat → Int32} {d : Nat → Int64} (hB : w x = some (.inr (2, [.ref L, .ref F, .int (nI mN), .ref Gd]))) (hF : w F = some (.inl (G.2.1.1, cF, .inl g))) (hGd : w Gd = some (.inl (G.2.1.2.1, cG, .inr (.inl d)))) (n : Int32) (v : Int64) (kk i : Nat) (h1 : mN ≤ cG) (h2 : cG ≤ 4096) (h3 : kk ≤ cF) (h4 : cF ≤ 4096) (h5 : kk ≤ cG) (h6 : mN ≤ kk) (hs : SrN d mN) (hi : Ub d mN v i) (hik : kk ≤ i) :
    PuM l y_B_insertByDistance ws_B_insertByDistance 2 G w [.ref x, .int n, .long v, .int (nI kk)] none := by
  refine met_ent (by decide +kernel) (Nat.le_of_ble_eq_true rfl) (fun p e s m below meth c ls C0 hr hin hH hl => ?_)
  have hx := C0.1
  have hb := C0.2.1
  have hS : va_S (gA G) s.heap s.heap [] := va_S.rf
  have hA : ∀ q : Nat, s.heap.size ≤ q → gA G q := fun q h => Nat.le_trans C0.ev.2.2.2.2.2.2.2.2.2.2.2.2 h
  have hl : lv_has ls 7 [(0, .ref x), (1, .int n), (2, .long v), (4, .int (nI kk))] := hl
  refine lv_aload_n hx hb d_B_insertByDistance_0 rfl (lv_at hl 0 rfl) ?_
  refine lv_lload_n hx hb d_B_insertByDistance_1 rfl (lv_at hl 2 rfl) ?_
  refine pu_v (runV C0 (k_B_indexBehind l G w hB hGd v i h1 h2 hs hi) (cs_B_170 C0 ⟨Nat.le_of_ble_eq_true rfl, Nat.le_of_ble_eq_true rfl⟩) hH hS (hd_recv C0.hK hH rfl hB) rfl hl.1 rfl (lv_room (Nat.le_of_ble_eq_true rfl)) d_B_insertByDistance_2 ⟨by show _ ≤ 0; omega, by show _ ≤ 0; omega⟩) ?_
  refine lv_istore (lv' := [(5, .int (nI i)), (0, .ref x), (1, .int n), (2, .long v), (4, .int (nI kk))]) hx hb d_B_insertByDistance_5 hl (by decide) rfl (fun ls hl => ?_)
  refine lv_iload hx hb d_B_insertByDistance_7 (lv_at hl 0 rfl) ?_
  refine lv_iload hx hb d_B_insertByDistance_9 (lv_at hl 4 rfl) ?_
  refine lv_icmp_ge (tgt := 34) hx hb d_B_insertByDistance_11 (by decide) (fun c_11 => ?_) (fun c_11 => ?_)
  · exact W.vret hx hb hr (fun t ht _ => ⟨rfl, ht⟩) (fun _ h => by cases h) d_B_insertByDistance_34 (hlocks := C0.2.2.2.2.2.2)
  · exact absurd (nI_le hik (by have := hi.1; omega)) c_11
end
section
/-! nearest -/
def insD (p : Int32 × Int64) : List (Int32 × Int64) → List (Int32 × Int64)
  | [] => [p]
  | q :: t => if p.2 < q.2 then p :: q :: t else q :: insD p t
def stD (kk : Nat) (px py : Int32) (a : List (Int32 × Int64)) (b : Bx) : List (Int32 × Int64) := (insD (b.1, bDst b px py) a).take kk
def nrs (px py : Int32) (kk : Nat) (bs : List Bx) : List (Int32 × Int64) := bs.foldl (stD kk px py) []
def SrD (ns : List (Int32 × Int64)) : Prop := ns.Pairwise (fun a b => a.2 ≤ b.2)
theorem insD_pos (p : Int32 × Int64) : ∀ ns : List (Int32 × Int64), SrD ns → ∃ i : Nat, i ≤ ns.length ∧ (∀ (j : Nat) (q : Int32 × Int64), ns[j]? = some q → j < i → q.2 ≤ p.2) ∧ (∀ (j : Nat) (q : Int32 × Int64), ns[j]? = some q → i ≤ j → p.2 < q.2) ∧ insD p ns = ns.take i ++ p :: ns.drop i
  | [], _ => ⟨0, Nat.le_refl _, fun j q h => by simp at h, fun j q h => by simp at h, rfl⟩
  | q :: t, hs => by
    obtain ⟨h1, h2⟩ := List.pairwise_cons.mp hs
    by_cases h : p.2 < q.2
    · refine ⟨0, Nat.zero_le _, fun j r _ hj => absurd hj (Nat.not_lt_zero _), fun j r hr _ => ?_, by rw [insD, if_pos h]; rfl⟩
      cases j with
      | zero => rw [List.getElem?_cons_zero] at hr; cases hr; exact h
      | succ j => rw [List.getElem?_cons_succ] at hr; exact i64_ltr h (h1 r (List.mem_of_getElem? hr))
    · obtain ⟨i, a1, a2, a3, a4⟩ := insD_pos p t h2
      refine ⟨i + 1, Nat.succ_le_succ a1, fun j r hr hj => ?_, fun j r hr hj => ?_, by rw [insD, if_neg h, a4]; rfl⟩
      · cases j with
        | zero => rw [List.getElem?_cons_zero] at hr; cases hr; exact i64_nlt.mp h
        | succ j => rw [List.getElem?_cons_succ] at hr; exact a2 j r hr (Nat.lt_of_succ_lt_succ hj)
      · cases j with
        | zero => exact absurd hj (Nat.not_succ_le_zero _)
        | succ j => rw [List.getElem?_cons_succ] at hr; exact a3 j r hr (Nat.le_of_succ_le_succ hj)
theorem insD_mem {p r : Int32 × Int64} : ∀ {ns : List (Int32 × Int64)}, r ∈ insD p ns → r = p ∨ r ∈ ns
  | [], h => Or.inl (List.mem_singleton.mp h)
  | q :: t, h => by
    rw [insD] at h
    by_cases g : p.2 < q.2
    · rw [if_pos g] at h
      exact List.mem_cons.mp h
    · rw [if_neg g] at h
      rcases List.mem_cons.mp h with h | h
      · exact Or.inr (h ▸ List.mem_cons_self ..)
      · exact (insD_mem h).imp id (List.mem_cons_of_mem _)
theorem insD_sr {p : Int32 × Int64} : ∀ {ns : List (Int32 × Int64)}, SrD ns → SrD (insD p ns)
  | [], _ => List.pairwise_singleton _ _
  | q :: t, hs => by
    obtain ⟨h1, h2⟩ := List.pairwise_cons.mp hs
    rw [insD]
    by_cases g : p.2 < q.2
    · rw [if_pos g]
      have hle : p.2 ≤ q.2 := Int64.le_iff_toInt_le.mpr (Int.le_of_lt (Int64.lt_iff_toInt_lt.mp g))
      exact List.pairwise_cons.mpr ⟨fun r hr => (List.mem_cons.mp hr).elim (fun h => by rw [h]; exact hle) (fun h => i64_tr hle (h1 r h)), hs⟩
    · rw [if_neg g]
      exact List.pairwise_cons.mpr ⟨fun r hr => (insD_mem hr).elim (fun h => by rw [h]; exact i64_nlt.mp g) (h1 r), insD_sr h2⟩
theorem stD_sr {kk : Nat} {px py : Int32} {ns : List (Int32 × Int64)} {b : Bx} (h : SrD ns) : SrD (stD kk px py ns b) := List.Pairwise.sublist (List.take_sublist _ _) (insD_sr h)
theorem insA_at {α : Type} {bs : List α} {k : Nat} {b : α} (hk : k ≤ bs.length) (i : Nat) : (bs.take k ++ b :: bs.drop k)[i]? = if i < k then bs[i]? else if i = k then some b else bs[i - 1]? := by
  by_cases h1 : i < k
  · rw [if_pos h1, List.getElem?_append_left (by rw [List.length_take]; omega), List.getElem?_take, if_pos h1]
  · rw [if_neg h1, List.getElem?_append_right (by rw [List.length_take]; omega), List.length_take, Nat.min_eq_left hk]
    by_cases h2 : i = k
    · subst h2
      rw [if_pos rfl, Nat.sub_self]; rfl
    · rw [if_neg h2, show i - k = (i - 1 - k) + 1 by omega, List.getElem?_cons_succ, List.getElem?_drop, show k + (i - 1 - k) = i - 1 by omega]
/-- the drawer while the nearest are looked for -/
def NAt (G : Gl) (w : World) (x L E F Gd : Nat) (bs : List Bx) (ns : List (Int32 × Int64)) (cF cG : Nat) : Prop :=
  w x = some (.inr (2, [.ref L, .ref F, .int (nI ns.length), .ref Gd])) ∧ (∃ (N : Nat) (f : Nat → Option Nat) (md : Int32), LsAt G w L E N f md bs ∧ ((E = ge0 G ∧ N = 0) ∨ 0 < N)) ∧ ∃ (g : Nat → Int32) (d : Nat → Int64), w F = some (.inl (G.2.1.1, cF, .inl g)) ∧ w Gd = some (.inl (G.2.1.2.1, cG, .inr (.inl d))) ∧ (∀ (j : Nat) (q : Int32 × Int64), ns[j]? = some q → g j = q.1 ∧ d j = q.2) ∧ 16 ≤ cF ∧ cF ≤ 4096 ∧ cG ≤ 4096
theorem m3 {a b c d : Nat} (h1 : a ≠ b) (h2 : a ≠ c) (h3 : a ≠ d) : a ∉ [b, c, d] := fun h => by
  rcases List.mem_cons.mp h with h | h
  · exact h1 h
  · exact m2 h2 h3 h
theorem LsAt.three {G : Gl} {w w1 : World} {x L E N F Gd : Nat} {f : Nat → Option Nat} {md : Int32} {bs : List Bx} {e : List Value} {g g' : vp_A} {c c' : ClassId} (h : LsAt G w L E N f md bs) (h0 : w (ge0 G) = none) (hx : w x = some (.inr (2, e))) (hF : w F = some (.inl (c, g))) (hg : ∀ (n : Nat) (f : Nat → Option Nat), g ≠ (n, .inr (.inr (.inr (.inr f))))) (hG : w Gd = some (.inl (c', g'))) (hg' : ∀ (n : Nat) (f : Nat → Option Nat), g' ≠ (n, .inr (.inr (.inr (.inr f))))) (hK : Kp w w1 [x, F, Gd]) : LsAt G w1 L E N f md bs := by
  refine ⟨hK _ _ h.1 (m3 (wne h.1 hx (by simp)) (wne h.1 hF (by simp)) (wne h.1 hG (by simp))), h.2.1, h.2.2.1, h.2.2.2.1.imp id (fun q => hK _ _ q (m3 (h.nE h0 hx).symm (h.nA (n := 0) h0 hF hg).symm (h.nA (n := 0) h0 hG hg').symm)), fun i hi => ?_⟩
  obtain ⟨y, a, b⟩ := h.2.2.2.2 i hi
  exact ⟨y, a, hK _ _ b (m3 (wne b hx (by simp)) (wne b hF (by simp)) (wne b hG (by simp)))⟩
theorem NAt.ins {G : Gl} {w w1 : World} {x L E F Gd cF cG kk i : Nat} {bs : List Bx} {ns : List (Int32 × Int64)} {p : Int32 × Int64} {g : Nat → Int32} {d : Nat → Int64} (h : NAt G w x L E F Gd bs ns cF cG) (h0 : w (ge0 G) = none) (hF : w F = some (.inl (G.2.1.1, cF, .inl g))) (hG : w Gd = some (.inl (G.2.1.2.1, cG, .inr (.inl d)))) (hQ : InsQ G w w1 x L F Gd (min ns.length (kk - 1)) cF cG i p.1 p.2 g d) (h1 : i ≤ ns.length) (h2 : i < kk) (h3 : ns.length ≤ kk) (h4 : insD p ns = ns.take i ++ p :: ns.drop i) : NAt G w1 x L E F Gd bs ((insD p ns).take kk) cF cG := by
  obtain ⟨hB, ⟨N, f, md, hLs, hN0⟩, g0, d0, hF0, hG0, hgd, hc⟩ := h
  have e0 : g0 = g := by
    have := hF0.symm.trans hF
    simpa using this
  have e1 : d0 = d := by
    have := hG0.symm.trans hG
    simpa using this
  subst e0
  subst e1
  obtain ⟨g1, d1, a1, a2, a3, a4, a5, a6, a7, a8⟩ := hQ
  have hl : ((insD p ns).take kk).length = min ns.length (kk - 1) + 1 := by
    rw [h4, List.length_take, List.length_append, List.length_take, List.length_cons, List.length_drop]; omega
  refine ⟨by rw [hl]; exact a1, ⟨N, f, md, hLs.three h0 hB hF (fun _ _ => by simp) hG (fun _ _ => by simp) a8, hN0⟩, g1, d1, a2, a3, fun j q hq => ?_, hc⟩
  have hj : j < min ns.length (kk - 1) + 1 := by rw [← hl]; exact (List.getElem?_eq_some_iff.mp hq).1
  rw [List.getElem?_take, if_pos (by omega), h4, insA_at h1] at hq
  by_cases q1 : j < i
  · rw [if_pos q1] at hq
    rw [(a4 j q1).1, (a4 j q1).2]
    exact hgd j q hq
  · rw [if_neg q1] at hq
    by_cases q2 : j = i
    · subst q2
      rw [if_pos rfl] at hq
      cases hq
      exact ⟨a5, a6⟩
    · rw [if_neg q2] at hq
      have := a7 (j - 1) (by omega) (by omega)
      rw [show j - 1 + 1 = j by omega] at this
      rw [this.1, this.2]
      exact hgd _ q hq
theorem ins_full {kk i : Nat} {ns : List (Int32 × Int64)} {p : Int32 × Int64} (h1 : i ≤ ns.length) (h2 : kk ≤ i) (h3 : ns.length ≤ kk) (h4 : insD p ns = ns.take i ++ p :: ns.drop i) : (insD p ns).take kk = ns := by
  have e1 : i = ns.length := by omega
  have e2 : kk = ns.length := by omega
  rw [h4, e1, e2, List.take_of_length_le (Nat.le_refl _), List.take_left]
theorem NAt.out {G : Gl} {w : World} {x L E F Gd cF cG kk : Nat} {bs : List Bx} {ns : List (Int32 × Int64)} (h : NAt G w x L E F Gd bs ns cF cG) (h1 : ns.length ≤ kk) (h2 : kk ≤ cF) : DAt G w x L E F Gd bs (ns.map Prod.fst) cF := by
  obtain ⟨hB, hL, g, d, hF, hG, hgd, hc2, hc3, hcG⟩ := h
  refine ⟨by rw [List.length_map]; exact hB, hL, ⟨g, hF, fun i hi => ?_⟩, ⟨cG, d, hG, hcG⟩, by rw [List.length_map]; omega, hc2, hc3⟩
  rw [List.length_map] at hi
  rw [List.getElem_map]
  exact (hgd i _ (List.getElem?_eq_getElem hi)).1
theorem NAt.ub {d : Nat → Int64} {g : Nat → Int32} {ns : List (Int32 × Int64)} {p : Int32 × Int64} {i : Nat} (hgd : ∀ (j : Nat) (q : Int32 × Int64), ns[j]? = some q → g j = q.1 ∧ d j = q.2) (h1 : i ≤ ns.length) (h2 : ∀ (j : Nat) (q : Int32 × Int64), ns[j]? = some q → j < i → q.2 ≤ p.2) (h3 : ∀ (j : Nat) (q : Int32 × Int64), ns[j]? = some q → i ≤ j → p.2 < q.2) : Ub d ns.length p.2 i := by
  refine ⟨h1, fun j hj => ?_, fun j hj hl => ?_⟩
  · have e := List.getElem?_eq_getElem (show j < ns.length by omega)
    rw [(hgd j _ e).2]; exact h2 j _ e hj
  · have e := List.getElem?_eq_getElem hl
    rw [(hgd j _ e).2]; exact h3 j _ e hj
theorem NAt.sr {d : Nat → Int64} {g : Nat → Int32} {ns : List (Int32 × Int64)} (hgd : ∀ (j : Nat) (q : Int32 × Int64), ns[j]? = some q → g j = q.1 ∧ d j = q.2) (h : SrD ns) : SrN d ns.length := fun i j hij hj => by
  have e1 := List.getElem?_eq_getElem (show i < ns.length by omega)
  have e2 := List.getElem?_eq_getElem hj
  rw [(hgd i _ e1).2, (hgd j _ e2).2]
  exact List.pairwise_iff_getElem.mp h i j _ hj hij
theorem kp_fr {w w1 : World} {S : List Nat} {a : Nat} (hK : Kp w w1 S) (h : w1 a = none) (hS : ∀ b ∈ S, w1 b ≠ none) : w a = none := by
  cases q : w a with
  | none => rfl
  | some z =>
    by_cases hm : a ∈ S
    · exact absurd h (hS a hm)
    · rw [hK _ _ q hm] at h; cases h
theorem DAt.room {G : Gl} {w w1 : World} {x L E F F1 Gd cF c1 : Nat} {bs : List Bx} {g : Nat → Int32} (h : DAt G w x L E F Gd bs [] cF) (h0 : w (ge0 G) = none) (hn : w F1 = none) (hA : w1 = va_up (va_up w F1 (some (.inl (G.2.1.1, c1, .inl g)))) x (some (.inr (2, [.ref L, .ref F1, .int (nI 0), .ref Gd])))) (h2 : 16 ≤ c1) (h3 : c1 ≤ 4096) : DAt G w1 x L E F1 Gd bs [] c1 ∧ Kp w w1 [x] := by
  obtain ⟨hB, ⟨N, f, md, hLs, hN0⟩, ⟨g0, hF, hg⟩, ⟨cG, d, hGd, hcG⟩, hc⟩ := h
  have hK : Kp w w1 [x] := by rw [hA]; exact (Kp.up (Or.inr hn)).ups (Or.inl (List.mem_cons_self ..))
  have hK2 : Kp w w1 [x, F] := hK.mono (fun b hb => Or.inl (by rw [List.mem_singleton.mp hb]; exact List.mem_cons_self ..))
  refine ⟨⟨?_, ⟨N, f, md, hLs.two h0 hB hF (fun _ _ => by simp) hK2, hN0⟩, ⟨g, ?_, fun i hi => absurd hi (Nat.not_lt_zero _)⟩, ⟨cG, d, hK _ _ hGd (fun hm => wne hGd hB (by simp) (List.mem_singleton.mp hm)), hcG⟩, Nat.zero_le _, h2, h3⟩, hK⟩
  · rw [hA]; exact va_up_self _ _ _
  · rw [hA, va_up_ne _ _ (wnf hB hn).symm]; exact va_up_self _ _ _
theorem NAt.new {G : Gl} {w w1 : World} {x L E F Gd G1 cF : Nat} {bs : List Bx} (h : DAt G w x L E F Gd bs [] cF) (h0 : w (ge0 G) = none) (hn : w G1 = none) (h1 : w1 G1 = some (.inl (G.2.1.2.1, cF, .inr (.inl (fun _ => 0))))) (h2 : w1 x = some (.inr (2, [.ref L, .ref F, .int (nI 0), .ref G1]))) (hK : Kp w w1 [x]) : NAt G w1 x L E F G1 bs [] cF cF := by
  obtain ⟨hB, ⟨N, f, md, hLs, hN0⟩, ⟨g0, hF, hg⟩, ⟨cG, d, hGd, hcG⟩, hc⟩ := h
  have hK2 : Kp w w1 [x, F] := hK.mono (fun b hb => Or.inl (by rw [List.mem_singleton.mp hb]; exact List.mem_cons_self ..))
  exact ⟨h2, ⟨N, f, md, hLs.two h0 hB hF (fun _ _ => by simp) hK2, hN0⟩, g0, _, hK _ _ hF (fun hm => wne hF hB (by simp) (List.mem_singleton.mp hm)), h1, fun j q hq => by simp at hq, hc.2.1, hc.2.2, hc.2.2⟩
theorem NAt.old {G : Gl} {w : World} {x L E F Gd cF cG : Nat} {bs : List Bx} {d : Nat → Int64} (h : DAt G w x L E F Gd bs [] cF) (hG : w Gd = some (.inl (G.2.1.2.1, cG, .inr (.inl d)))) (hcG : cG ≤ 4096) : NAt G w x L E F Gd bs [] cF cG := by
  obtain ⟨hB, hL, ⟨g0, hF, hg⟩, -, hc⟩ := h
  exact ⟨hB, hL, g0, d, hF, hG, fun j q hq => by simp at hq, hc.2.1, hc.2.2, hcG⟩

set_option maxHeartbeats 4000000 in
set_option maxRecDepth 100000 in
theorem k_B_nearest (l : Launch) (G : Gl) (w : World) {x L E F Gd cF : Nat} {bs : List Bx} {rs : List Int32} (hD : DAt G w x L E F Gd bs rs cF) (px py : Int32) (nn : Nat) (hn1 : 1 ≤ nn) (hn2 : nn ≤ 4096) (hp9 : okP px py) (hln : bs.length ≤ 4096) :
    GnI l y_B_nearest ws_B_nearest 6 260 12300 G w [.ref x, .int px, .int py, .int (nI nn)] (fun r w1 => r = nI (nrs px py (min nn bs.length) bs).length ∧ DQ G w w1 x L E F Gd bs ((nrs px py (min nn bs.length) bs).map Prod.fst) (fun _ => True)) := by
  refine met_ent (by decide +kernel) (Nat.le_of_ble_eq_true rfl) (fun p e s m below meth c ls C0 hr hin hH hl => ?_)
  have hx := C0.1
  have hb := C0.2.1
  have hS : va_S (gA G) s.heap s.heap [] := va_S.rf
  have hA : ∀ q : Nat, s.heap.size ≤ q → gA G q := fun q h => Nat.le_trans C0.ev.2.2.2.2.2.2.2.2.2.2.2.2 h
  have hl : lv_has ls 7 [(0, .ref x), (1, .int px), (2, .int py), (3, .int (nI nn))] := hl
  obtain ⟨hB, ⟨N, f, md, hLs, hN0⟩, ⟨g, hF, hg⟩, ⟨cG, d, hGd, hcG⟩, hc1, hc2, hc3⟩ := id hD
  obtain ⟨hL1, hL2, hL3, hL4, hL5⟩ := id hLs
  have h00 := ge0_none C0 hH
  refine lv_iload_n hx hb d_B_nearest_0 rfl (lv_at hl 3 rfl) ?_
  refine lv_iconst (v := 1) hx hb d_B_nearest_1 (by decide) ?_
  refine lv_icmp_lt (tgt := 12) hx hb d_B_nearest_2 (by decide) (fun c_2 => ?_) (fun c_2 => ?_)
  · exact absurd c_2 (show ¬ nI nn < nI 1 from nI_nlt hn1 (by omega))
  · refine lv_iload_n hx hb d_B_nearest_5 rfl (lv_at hl 3 rfl) ?_
    refine lv_sipush (v := 4096) hx hb d_B_nearest_6 (by decide) ?_
    refine lv_icmp_le (tgt := 22) hx hb d_B_nearest_9 (by decide) (fun c_9 => ?_) (fun c_9 => ?_)
    · refine lv_iload_n hx hb d_B_nearest_22 rfl (lv_at hl 1 rfl) ?_
      refine lv_iload_n hx hb d_B_nearest_23 rfl (lv_at hl 2 rfl) ?_
      refine pu_n (runS C0 (k_B_requirePlace l G w px py hp9) (cs_B_90 C0 ⟨Nat.le_of_ble_eq_true rfl, Nat.le_of_ble_eq_true rfl⟩) hH hS rfl hl.1 rfl (lv_room (Nat.le_of_ble_eq_true rfl)) d_B_nearest_24 ⟨by show _ ≤ 260; omega, by show _ ≤ 12300; omega⟩) ?_
      obtain ⟨kk, hkk⟩ : ∃ z : Nat, z = min nn bs.length := ⟨_, rfl⟩
      have loop : ∀ (u j : Nat), j + u = bs.length → ∀ (w9 : World) (F9 G9 cF9 cG9 ce sl : Nat) (ns : List (Int32 × Int64)) (H : Heap) (locs : List Loc), Hw G w9 H → va_S (gA G) s.heap H locs → NAt G w9 x L E F9 G9 bs ns cF9 cG9 → kk ≤ cF9 → kk ≤ cG9 → ns.length ≤ kk → SrD ns → Kp w w9 [x, F, Gd] → (F9 = F ∨ w F9 = none) → (G9 = Gd ∨ w G9 = none) → ce ≤ 260 → sl ≤ 12300 → (bs.drop j).foldl (stD kk px py) ns = (nrs px py (min nn bs.length) bs) → ∀ ls : Array Slot, lv_has ls 7 [(0, .ref x), (1, .int px), (2, .int py), (4, .int (nI kk)), (5, .int (nI j))] → W p l e (rmK 6 260 12300) s m [.ref x, .int px, .int py, .int (nI nn)].toArray below meth c H locs ce sl (MQ below (va_Qi (fun r w1 => r = nI (nrs px py (min nn bs.length) bs).length ∧ DQ G w w1 x L E F Gd bs ((nrs px py (min nn bs.length) bs).map Prod.fst) (fun _ => True)) (Wo G) (gA G)) [.ref x, .int px, .int py, .int (nI nn)].toArray s 260 12300 (gA G)) (F0 m 58 ls []) := by
        intro u
        induction u with
        | zero =>
          intro j hj w9 F9 G9 cF9 cG9 ce sl ns H locs hH hS hD9 hkF hkG hnk hsr hK9 hFf hGf hce hsl hfo ls hl
          obtain ⟨hB9, ⟨N9, f9, md9, hLs9, hN9⟩, g9, d9, hF9, hG9, hgd9, hc29, hc39, hcG9⟩ := id hD9
          obtain ⟨hL19, hL29, hL39, hL49, hL59⟩ := id hLs9
          have h09 := ge0_none C0 hH
          refine lv_iload hx hb d_B_nearest_58 (lv_at hl 4 rfl) ?_
          refine lv_aload_n hx hb d_B_nearest_60 rfl (lv_at hl 0 rfl) ?_
          refine gf_B_10 C0 hH hB9 rfl d_B_nearest_61 ?_
          refine pu_v (runV C0 (k_A_size l G w9 hL19) (cs_B_61 C0 ⟨Nat.le_of_ble_eq_true rfl, Nat.le_of_ble_eq_true rfl⟩) hH hS (hd_recv C0.hK hH rfl hL19) rfl hl.1 rfl (lv_room (Nat.le_of_ble_eq_true rfl)) d_B_nearest_64 ⟨by show _ ≤ 260; omega, by show _ ≤ 12300; omega⟩) ?_
          refine lv_icmp_ge (tgt := 108) hx hb d_B_nearest_67 (by decide) (fun c_67 => ?_) (fun c_67 => ?_)
          · have hfin : ns = (nrs px py (min nn bs.length) bs) := by rw [← hfo, List.drop_eq_nil_of_le (by omega), List.foldl_nil]
            refine lv_aload_n hx hb d_B_nearest_108 rfl (lv_at hl 0 rfl) ?_
            refine gf_B_20 C0 hH hB9 rfl d_B_nearest_109 ?_
            refine W.widen (k := 260) (n := 12300) (by omega) (by omega) ?_
            exact W.iret hx hb hr (fun t ht hW => ⟨⟨(nI ns.length), w9, rfl, ⟨by rw [hfin], by rw [← hfin]; exact ⟨E, F9, G9, cF9, Or.inl rfl, hFf, hGf, hD9.out hnk hkF, hK9.mono (fun b hb => Or.inl (by rcases List.mem_cons.mp hb with q | hb; (· simp [q]); (· rcases List.mem_cons.mp hb with q | q; (· simp [q]); (· simp [List.mem_singleton.mp q])))), trivial⟩⟩, Wo.at C0.ev hH hS ht hW⟩, hS.F ht⟩) hS.2.2 d_B_nearest_112 (hlocks := C0.2.2.2.2.2.2)
          · exact absurd (nI_le (show bs.length ≤ j by omega) (by omega)) c_67
        | succ u ih =>
          intro j hj w9 F9 G9 cF9 cG9 ce sl ns H locs hH hS hD9 hkF hkG hnk hsr hK9 hFf hGf hce hsl hfo ls hl
          obtain ⟨hB9, ⟨N9, f9, md9, hLs9, hN9⟩, g9, d9, hF9, hG9, hgd9, hc29, hc39, hcG9⟩ := id hD9
          obtain ⟨hL19, hL29, hL39, hL49, hL59⟩ := id hLs9
          have h09 := ge0_none C0 hH
          refine lv_iload hx hb d_B_nearest_58 (lv_at hl 4 rfl) ?_
          refine lv_aload_n hx hb d_B_nearest_60 rfl (lv_at hl 0 rfl) ?_
          refine gf_B_10 C0 hH hB9 rfl d_B_nearest_61 ?_
          refine pu_v (runV C0 (k_A_size l G w9 hL19) (cs_B_61 C0 ⟨Nat.le_of_ble_eq_true rfl, Nat.le_of_ble_eq_true rfl⟩) hH hS (hd_recv C0.hK hH rfl hL19) rfl hl.1 rfl (lv_room (Nat.le_of_ble_eq_true rfl)) d_B_nearest_64 ⟨by show _ ≤ 260; omega, by show _ ≤ 12300; omega⟩) ?_
          refine lv_icmp_ge (tgt := 108) hx hb d_B_nearest_67 (by decide) (fun c_67 => ?_) (fun c_67 => ?_)
          · exact absurd c_67 (Int32.not_le.mpr (nI_lt (show j < bs.length by omega) (by omega)))
          · have hjl : j < bs.length := by omega
            refine lv_aload_n hx hb d_B_nearest_70 rfl (lv_at hl 0 rfl) ?_
            refine gf_B_10 C0 hH hB9 rfl d_B_nearest_71 ?_
            refine lv_iload hx hb d_B_nearest_74 (lv_at hl 4 rfl) ?_
            obtain ⟨xj, hf_xj, h_xj⟩ := hL59 j hjl
            refine pu_v (runV C0 (k_A_get l G w9 hL19 (hLs9.arr (by omega)) (i := j) (by omega) hL29 (by omega) hf_xj) (cs_B_75 C0 ⟨Nat.le_of_ble_eq_true rfl, Nat.le_of_ble_eq_true rfl⟩) hH hS (hd_recv C0.hK hH rfl hL19) rfl hl.1 rfl (lv_room (Nat.le_of_ble_eq_true rfl)) d_B_nearest_76 ⟨by show _ ≤ 260; omega, by show _ ≤ 12300; omega⟩) ?_
            refine va_castY hx hb C0.2.2.2.1 (C0.2.2.2.2.1 _ mw_104) (C0.ev.2.2.2.2.2.2.1 (Cond.castable "BoxDrawer$Box" "BoxDrawer$Box") (by decide +kernel)) (hd_recv C0.hK hH rfl h_xj) d_B_nearest_79 ?_
            refine lv_astore (lv' := [(6, .ref xj), (0, .ref x), (1, .int px), (2, .int py), (4, .int (nI kk)), (5, .int (nI j))]) hx hb d_B_nearest_82 hl (by decide) rfl (fun ls hl => ?_)
            refine lv_aload_n hx hb d_B_nearest_84 rfl (lv_at hl 1 rfl) ?_
            refine lv_aload hx hb d_B_nearest_85 (lv_at hl 0 rfl) ?_
            refine gf_B_82 C0 hH h_xj rfl d_B_nearest_87 ?_
            refine lv_aload hx hb d_B_nearest_90 (lv_at hl 0 rfl) ?_
            refine lv_iload_n hx hb d_B_nearest_92 rfl (lv_at hl 2 rfl) ?_
            refine lv_iload_n hx hb d_B_nearest_93 rfl (lv_at hl 3 rfl) ?_
            refine pu_v (runVN C0 (k_X_distanceFrom l G w9 px py h_xj) (cs_B_106 C0 ⟨Nat.le_of_ble_eq_true rfl, Nat.le_of_ble_eq_true rfl⟩) hH hS (hd_recv C0.hK hH rfl h_xj) rfl hl.1 rfl (lv_room (Nat.le_of_ble_eq_true rfl)) d_B_nearest_94 ⟨by show _ ≤ 260; omega, by show _ ≤ 12300; omega⟩) ?_
            refine lv_iload hx hb d_B_nearest_97 (lv_at hl 4 rfl) ?_
            obtain ⟨i9, hi1, hi2, hi3, hi4⟩ := insD_pos (bs[j].1, bDst bs[j] px py) ns hsr
            by_cases hik : i9 < kk
            · refine gn_v (runV C0 (k_B_insD1 l G w9 hB9 hF9 hG9 (bs[j].1) (bDst bs[j] px py) kk i9 (by omega) hcG9 hkF hc39 hkG hnk (NAt.sr hgd9 hsr) (NAt.ub (p := (bs[j].1, bDst bs[j] px py)) hgd9 hi1 hi2 hi3) hik) (cs_B_110 C0 ⟨Nat.le_of_ble_eq_true rfl, Nat.le_of_ble_eq_true rfl⟩) hH hS (hd_recv C0.hK hH rfl hB9) rfl hl.1 rfl (lv_room (Nat.le_of_ble_eq_true rfl)) d_B_nearest_99 ⟨by show _ ≤ 260; omega, by show _ ≤ 12300; omega⟩) hS (fun w1 H locs hp1 hH hS => ?_)
              have hK8 : Kp w9 w1 [x, F9, G9] := by obtain ⟨_, _, _, _, _, _, _, _, _, h⟩ := hp1; exact h
              have hD8 := NAt.ins (p := (bs[j].1, bDst bs[j] px py)) hD9 h09 hF9 hG9 hp1 hi1 hik hnk hi4
              obtain ⟨y_1, ey_1⟩ : ∃ z : Int32, z = (nI j) + 1 := ⟨_, rfl⟩
              refine lv_iinc (v := y_1) (lv' := [(5, .int y_1), (6, .ref xj), (0, .ref x), (1, .int px), (2, .int py), (4, .int (nI kk))]) hx hb d_B_nearest_102 hl (k := 5) rfl (by rw [ey_1]; rfl) (by decide) rfl (fun ls hl => ?_)
              refine lv_goto (tgt := 58) hx hb d_B_nearest_105 (by decide) ?_
              rw [show y_1 = nI (j + 1) from by rw [ey_1]; exact nI_1 j] at hl
              refine ih (j + 1) (by omega) w1 F9 G9 cF9 cG9 ce sl _ H locs hH hS hD8 hkF hkG (by rw [List.length_take]; exact Nat.min_le_left _ _) (stD_sr (b := bs[j]) hsr) (hK9.trans hK8 (fun b hb => ?_)) hFf hGf hce hsl (by rw [← hfo, List.drop_eq_getElem_cons hjl, List.foldl_cons]; rfl) ls (lv_sub hl [2, 3, 4, 5, 0] rfl)
              rcases List.mem_cons.mp hb with q | hb
              · exact Or.inl (by simp [q])
              · rcases List.mem_cons.mp hb with q | q
                · rw [q]; exact hFf.imp (fun h => by simp [h]) id
                · rw [List.mem_singleton.mp q]; exact hGf.imp (fun h => by simp [h]) id
            · have hsame := ins_full hi1 (Nat.le_of_not_lt hik) hnk hi4
              refine pu_n (runV C0 (k_B_insD0 l G w9 hB9 hF9 hG9 (bs[j].1) (bDst bs[j] px py) kk i9 (by omega) hcG9 hkF hc39 hkG hnk (NAt.sr hgd9 hsr) (NAt.ub (p := (bs[j].1, bDst bs[j] px py)) hgd9 hi1 hi2 hi3) (Nat.le_of_not_lt hik)) (cs_B_110 C0 ⟨Nat.le_of_ble_eq_true rfl, Nat.le_of_ble_eq_true rfl⟩) hH hS (hd_recv C0.hK hH rfl hB9) rfl hl.1 rfl (lv_room (Nat.le_of_ble_eq_true rfl)) d_B_nearest_99 ⟨by show _ ≤ 260; omega, by show _ ≤ 12300; omega⟩) ?_
              obtain ⟨y_2, ey_2⟩ : ∃ z : Int32, z = (nI j) + 1 := ⟨_, rfl⟩
              refine lv_iinc (v := y_2) (lv' := [(5, .int y_2), (6, .ref xj), (0, .ref x), (1, .int px), (2, .int py), (4, .int (nI kk))]) hx hb d_B_nearest_102 hl (k := 5) rfl (by rw [ey_2]; rfl) (by decide) rfl (fun ls hl => ?_)
              refine lv_goto (tgt := 58) hx hb d_B_nearest_105 (by decide) ?_
              rw [show y_2 = nI (j + 1) from by rw [ey_2]; exact nI_1 j] at hl
              exact ih (j + 1) (by omega) w9 F9 G9 cF9 cG9 ce sl ns H locs hH hS hD9 hkF hkG hnk hsr hK9 hFf hGf hce hsl (by rw [← hfo, List.drop_eq_getElem_cons hjl, List.foldl_cons, stD, hsame]) ls (lv_sub hl [2, 3, 4, 5, 0] rfl)
      refine lv_iload_n hx hb d_B_nearest_27 rfl (lv_at hl 3 rfl) ?_
      refine lv_aload_n hx hb d_B_nearest_28 rfl (lv_at hl 0 rfl) ?_
      refine gf_B_10 C0 hH hB rfl d_B_nearest_29 ?_
      refine pu_v (runV C0 (k_A_size l G w hL1) (cs_B_61 C0 ⟨Nat.le_of_ble_eq_true rfl, Nat.le_of_ble_eq_true rfl⟩) hH hS (hd_recv C0.hK hH rfl hL1) rfl hl.1 rfl (lv_room (Nat.le_of_ble_eq_true rfl)) d_B_nearest_32 ⟨by show _ ≤ 260; omega, by show _ ≤ 12300; omega⟩) ?_
      refine va_mmin hx hb (C0.2.2.1.trans hl.1.symm) C0.2.2.2.1 (C0.2.2.2.2.1 _ mw_121) (C0.2.2.2.2.1 _ mw_122) (C0.2.2.2.2.1 _ mw_19) (C0.2.2.2.2.1 _ mw_123) (Nat.le_of_ble_eq_true rfl) (Nat.le_of_ble_eq_true rfl) (by show _ ≤ 260; omega) (by show _ ≤ 12300; omega) d_B_nearest_35 ?_
      rw [show (if (nI bs.length) < (nI nn) then (nI bs.length) else (nI nn)) = nI kk from ((min_nI (by omega) (by omega)).trans (by rw [hkk]))]
      refine lv_istore (lv' := [(4, .int (nI kk)), (0, .ref x), (1, .int px), (2, .int py), (3, .int (nI nn))]) hx hb d_B_nearest_38 hl (by decide) rfl (fun ls hl => ?_)
      refine lv_aload_n hx hb d_B_nearest_40 rfl (lv_at hl 1 rfl) ?_
      refine lv_iconst (v := 0) hx hb d_B_nearest_41 (by decide) ?_
      refine pf_B_20 C0 hH hS hB rfl rfl (Nat.le_of_ble_eq_true rfl) d_B_nearest_42 (fun H locs hH hS => ?_)
      obtain ⟨w2, ew2⟩ : ∃ z : World, z = va_up w x (some (.inr (2, [.ref L, .ref F, .int 0, .ref Gd]))) := ⟨_, rfl⟩
      have hH : Hw G w2 H := by rw [ew2]; exact hH
      have hw2_L : w2 L = some (.inr (0, [.int md, .ref E, .int (nI bs.length)])) := by rw [ew2, va_up_ne _ _ (wne hL1 hB (by simp))]; exact hL1
      have hw2_x : w2 x = some (.inr (2, [.ref L, .ref F, .int 0, .ref Gd])) := by rw [ew2]; exact va_up_self _ _ _
      refine lv_aload_n hx hb d_B_nearest_45 rfl (lv_at hl 1 rfl) ?_
      refine lv_iload hx hb d_B_nearest_46 (lv_at hl 0 rfl) ?_
      obtain ⟨hD3, hK3⟩ := DAt.res0 hD h00 ew2
      have h03 := ge0_none C0 hH
      obtain ⟨hB3, ⟨N3, f3, md3, hLs3, hN3⟩, ⟨g3, hF3, hg3⟩, ⟨cG3, d3, hGd3, hcG3⟩, hc13, hc23, hc33⟩ := id hD3
      by_cases hro : kk ≤ cF
      · refine pu_n (runV C0 (k_B_makeRoom0 l G w2 hB3 hF3 kk (Or.inl hro) (by omega) hc33) (cs_B_100 C0 ⟨Nat.le_of_ble_eq_true rfl, Nat.le_of_ble_eq_true rfl⟩) hH hS (hd_recv C0.hK hH rfl hw2_x) rfl hl.1 rfl (lv_room (Nat.le_of_ble_eq_true rfl)) d_B_nearest_48 ⟨by show _ ≤ 260; omega, by show _ ≤ 12300; omega⟩) ?_
        have hD4 := hD3
        have hK4 : Kp w w2 [x, F, Gd] := hK3.mono (fun b hb => Or.inl (by rcases List.mem_cons.mp hb with q | q; (· simp [q]); (· simp [List.mem_singleton.mp q])))
        have hkc : kk ≤ cF := hro
        have h04 := h03
        refine lv_aload_n hx hb d_B_nearest_51 rfl (lv_at hl 1 rfl) ?_
        obtain ⟨hB5, ⟨N5, f5, md5, hLs5, hN5⟩, ⟨g5, hF5, hg5⟩, ⟨cG5, d5, hGd5, hcG5⟩, hc15, hc25, hc35⟩ := id hD4
        by_cases hmr : cF ≤ cG5
        · refine pu_n (runV C0 (k_B_mrd0 l G w2 hB5 hF5 hGd5 hmr hcG5) (cs_B_103 C0 ⟨Nat.le_of_ble_eq_true rfl, Nat.le_of_ble_eq_true rfl⟩) hH hS (hd_recv C0.hK hH rfl hB3) rfl hl.1 rfl (lv_room (Nat.le_of_ble_eq_true rfl)) d_B_nearest_52 ⟨by show _ ≤ 260; omega, by show _ ≤ 12300; omega⟩) ?_
          have hN9 := NAt.old hD4 hGd5 hcG5
          refine lv_iconst (v := 0) hx hb d_B_nearest_55 (by decide) ?_
          refine lv_istore (lv' := [(5, .int 0), (4, .int (nI kk)), (0, .ref x), (1, .int px), (2, .int py), (3, .int (nI nn))]) hx hb d_B_nearest_56 hl (by decide) rfl (fun ls hl => ?_)
          exact loop bs.length 0 (by omega) w2 F Gd cF cG5 _ _ [] H locs hH hS hN9 (by omega) (by omega) (Nat.zero_le _) List.Pairwise.nil hK4 (Or.inl rfl) (Or.inl rfl) (by omega) (by omega) (by rw [hkk]; rfl) ls (lv_sub hl [2, 3, 4, 1, 0] rfl)
        · have hfr : ∀ b ∈ [x, F, Gd], w2 b ≠ none := fun b hb => by rcases List.mem_cons.mp hb with q | hb; (· rw [q, hB5]; simp); (· rcases List.mem_cons.mp hb with q | q; (· rw [q, hF5]; simp); (· rw [List.mem_singleton.mp q, hGd5]; simp))
          refine gn_v (runV C0 (k_B_mrd1 l G w2 hB5 hF5 hGd5 (Nat.lt_of_not_le hmr) hc35) (cs_B_103 C0 ⟨Nat.le_of_ble_eq_true rfl, Nat.le_of_ble_eq_true rfl⟩) hH hS (hd_recv C0.hK hH rfl hB3) rfl hl.1 rfl (lv_room (Nat.le_of_ble_eq_true rfl)) d_B_nearest_52 ⟨by show _ ≤ 260; omega, by show _ ≤ 12300; omega⟩) hS (fun w3 H locs hp3 hH hS => ?_)
          obtain ⟨G6, hnG6, hG6, hx6, hK6⟩ := hp3
          have hN9 := NAt.new hD4 h04 hnG6 hG6 hx6 hK6
          have hfG6 : w G6 = none := kp_fr (S := [x, F, Gd]) hK4 hnG6 (fun b hb => hfr b hb)
          have hK7 : Kp w w3 [x, F, Gd] := hK4.trans hK6 (fun b hb => Or.inl (by simp [List.mem_singleton.mp hb]))
          refine lv_iconst (v := 0) hx hb d_B_nearest_55 (by decide) ?_
          refine lv_istore (lv' := [(5, .int 0), (4, .int (nI kk)), (0, .ref x), (1, .int px), (2, .int py), (3, .int (nI nn))]) hx hb d_B_nearest_56 hl (by decide) rfl (fun ls hl => ?_)
          exact loop bs.length 0 (by omega) w3 F G6 cF cF _ _ [] H locs hH hS hN9 (by omega) (by omega) (Nat.zero_le _) List.Pairwise.nil hK7 (Or.inl rfl) (Or.inr hfG6) (by omega) (by omega) (by rw [hkk]; rfl) ls (lv_sub hl [2, 3, 4, 1, 0] rfl)
      · obtain ⟨c4, hc4⟩ : ∃ z : Nat, z = min (max kk (2 * cF)) 4096 := ⟨_, rfl⟩
        refine gn_v (runV C0 (k_B_makeRoom1 l G w2 hB3 hF3 kk c4 (by omega) (by omega) (by omega) hc4) (cs_B_100 C0 ⟨Nat.le_of_ble_eq_true rfl, Nat.le_of_ble_eq_true rfl⟩) hH hS (hd_recv C0.hK hH rfl hw2_x) rfl hl.1 rfl (lv_room (Nat.le_of_ble_eq_true rfl)) d_B_nearest_48 ⟨by show _ ≤ 260; omega, by show _ ≤ 12300; omega⟩) hS (fun w4 H locs hp4 hH hS => ?_)
        obtain ⟨F4, hnF4, ew4⟩ := hp4
        obtain ⟨hD4, hKx⟩ := DAt.room hD3 h03 hnF4 ew4 (by omega) (by omega)
        have h04 := ge0_none C0 hH
        have hB4 := hD4.1
        have hfF4 : w F4 = none := kp_fr hK3 hnF4 (fun b hb => by rcases List.mem_cons.mp hb with q | q; (· rw [q, hB3]; simp); (· rw [List.mem_singleton.mp q, hF3]; simp))
        have hK4 : Kp w w4 [x, F, Gd] := (hK3.mono (fun b hb => Or.inl (by rcases List.mem_cons.mp hb with q | q; (· simp [q]); (· simp [List.mem_singleton.mp q])))).trans hKx (fun b hb => Or.inl (by simp [List.mem_singleton.mp hb]))
        have hkc : kk ≤ c4 := by omega
        refine lv_aload_n hx hb d_B_nearest_51 rfl (lv_at hl 1 rfl) ?_
        obtain ⟨hB5, ⟨N5, f5, md5, hLs5, hN5⟩, ⟨g5, hF5, hg5⟩, ⟨cG5, d5, hGd5, hcG5⟩, hc15, hc25, hc35⟩ := id hD4
        by_cases hmr : c4 ≤ cG5
        · refine pu_n (runV C0 (k_B_mrd0 l G w4 hB5 hF5 hGd5 hmr hcG5) (cs_B_103 C0 ⟨Nat.le_of_ble_eq_true rfl, Nat.le_of_ble_eq_true rfl⟩) hH hS (hd_recv C0.hK hH rfl hB4) rfl hl.1 rfl (lv_room (Nat.le_of_ble_eq_true rfl)) d_B_nearest_52 ⟨by show _ ≤ 260; omega, by show _ ≤ 12300; omega⟩) ?_
          have hN9 := NAt.old hD4 hGd5 hcG5
          refine lv_iconst (v := 0) hx hb d_B_nearest_55 (by decide) ?_
          refine lv_istore (lv' := [(5, .int 0), (4, .int (nI kk)), (0, .ref x), (1, .int px), (2, .int py), (3, .int (nI nn))]) hx hb d_B_nearest_56 hl (by decide) rfl (fun ls hl => ?_)
          exact loop bs.length 0 (by omega) w4 F4 Gd c4 cG5 _ _ [] H locs hH hS hN9 (by omega) (by omega) (Nat.zero_le _) List.Pairwise.nil hK4 (Or.inr hfF4) (Or.inl rfl) (by omega) (by omega) (by rw [hkk]; rfl) ls (lv_sub hl [2, 3, 4, 1, 0] rfl)
        · have hfr : ∀ b ∈ [x, F, Gd], w4 b ≠ none := fun b hb => by rcases List.mem_cons.mp hb with q | hb; (· rw [q, hB5]; simp); (· rcases List.mem_cons.mp hb with q | q; (· rw [q, hKx _ _ hF3 (fun hm => wne hF3 hB3 (by simp) (List.mem_singleton.mp hm))]; simp); (· rw [List.mem_singleton.mp q, hGd5]; simp))
          refine gn_v (runV C0 (k_B_mrd1 l G w4 hB5 hF5 hGd5 (Nat.lt_of_not_le hmr) hc35) (cs_B_103 C0 ⟨Nat.le_of_ble_eq_true rfl, Nat.le_of_ble_eq_true rfl⟩) hH hS (hd_recv C0.hK hH rfl hB4) rfl hl.1 rfl (lv_room (Nat.le_of_ble_eq_true rfl)) d_B_nearest_52 ⟨by show _ ≤ 260; omega, by show _ ≤ 12300; omega⟩) hS (fun w5 H locs hp5 hH hS => ?_)
          obtain ⟨G6, hnG6, hG6, hx6, hK6⟩ := hp5
          have hN9 := NAt.new hD4 h04 hnG6 hG6 hx6 hK6
          have hfG6 : w G6 = none := kp_fr (S := [x, F, Gd]) hK4 hnG6 (fun b hb => hfr b hb)
          have hK7 : Kp w w5 [x, F, Gd] := hK4.trans hK6 (fun b hb => Or.inl (by simp [List.mem_singleton.mp hb]))
          refine lv_iconst (v := 0) hx hb d_B_nearest_55 (by decide) ?_
          refine lv_istore (lv' := [(5, .int 0), (4, .int (nI kk)), (0, .ref x), (1, .int px), (2, .int py), (3, .int (nI nn))]) hx hb d_B_nearest_56 hl (by decide) rfl (fun ls hl => ?_)
          exact loop bs.length 0 (by omega) w5 F4 G6 c4 c4 _ _ [] H locs hH hS hN9 (by omega) (by omega) (Nat.zero_le _) List.Pairwise.nil hK7 (Or.inr hfF4) (Or.inr hfG6) (by omega) (by omega) (by rw [hkk]; rfl) ls (lv_sub hl [2, 3, 4, 1, 0] rfl)
    · exact absurd (show nI nn ≤ nI 4096 from nI_le hn2 (by omega)) c_9

def okM (n : Int32) : Prop := 1 ≤ n ∧ n ≤ 4096

set_option maxHeartbeats 4000000 in
set_option maxRecDepth 100000 in
theorem t_B_nearest0 (l : Launch) (hlt : l.stackTraces = false) (G : Gl) (w : World) {x : Nat} (px py n : Int32) (h : ¬ okM n) :
    ThM l y_B_nearest ws_B_nearest 8 G w [.ref x, .int px, .int py, .int n] "java/lang/IllegalArgumentException" := by
  refine th_ent (by decide +kernel) (Nat.le_of_ble_eq_true rfl) (fun p e s m below meth c ls C0 ht hH hl => ?_)
  have hx := C0.1
  have hb := C0.2.1
  have hS : va_S (gA G) s.heap s.heap [] := va_S.rf
  have hl : lv_has ls 7 [(0, .ref x), (1, .int px), (2, .int py), (3, .int n)] := hl
  refine lv_iload_n hx hb d_B_nearest_0 rfl (lv_at hl 3 rfl) ?_
  refine lv_iconst (v := 1) hx hb d_B_nearest_1 (by decide) ?_
  refine lv_icmp_lt (tgt := 12) hx hb d_B_nearest_2 (by decide) (fun c_2 => ?_) (fun c_2 => ?_)
  · exact th_throw (text := "n is none of 1 .. 4096") hlt C0 (by decide +kernel) mw_230 mw_10 at_ia og_ia (by decide +kernel) hl.1 d_B_nearest_12 d_B_nearest_15 d_B_nearest_16 d_B_nearest_18 d_B_nearest_21 ht (by decide)
  · refine lv_iload_n hx hb d_B_nearest_5 rfl (lv_at hl 3 rfl) ?_
    refine lv_sipush (v := 4096) hx hb d_B_nearest_6 (by decide) ?_
    refine lv_icmp_le (tgt := 22) hx hb d_B_nearest_9 (by decide) (fun c_9 => ?_) (fun c_9 => ?_)
    · exact absurd (by unfold okM; revert c_9 c_2; simp only [Int32.le_iff_toInt_le, Int32.lt_iff_toInt_lt, tI9, tIm9, tI4096, tI3, tI2, tI1, tI0]; omega) h
    · exact th_throw (text := "n is none of 1 .. 4096") hlt C0 (by decide +kernel) mw_230 mw_10 at_ia og_ia (by decide +kernel) hl.1 d_B_nearest_12 d_B_nearest_15 d_B_nearest_16 d_B_nearest_18 d_B_nearest_21 ht (by decide)

set_option maxHeartbeats 4000000 in
set_option maxRecDepth 100000 in
theorem t_B_nearest1 (l : Launch) (hlt : l.stackTraces = false) (G : Gl) (w : World) {x : Nat} (px py n : Int32) (hm : okM n) (h : ¬ okP px py) :
    ThM l y_B_nearest ws_B_nearest 8 G w [.ref x, .int px, .int py, .int n] "java/lang/IllegalArgumentException" := by
  refine th_ent (by decide +kernel) (Nat.le_of_ble_eq_true rfl) (fun p e s m below meth c ls C0 ht hH hl => ?_)
  have hx := C0.1
  have hb := C0.2.1
  have hS : va_S (gA G) s.heap s.heap [] := va_S.rf
  have hl : lv_has ls 7 [(0, .ref x), (1, .int px), (2, .int py), (3, .int n)] := hl
  refine lv_iload_n hx hb d_B_nearest_0 rfl (lv_at hl 3 rfl) ?_
  refine lv_iconst (v := 1) hx hb d_B_nearest_1 (by decide) ?_
  refine lv_icmp_lt (tgt := 12) hx hb d_B_nearest_2 (by decide) (fun c_2 => ?_) (fun c_2 => ?_)
  · exact absurd hm (by unfold okM; revert c_2; simp only [Int32.le_iff_toInt_le, Int32.lt_iff_toInt_lt, tI9, tIm9, tI4096, tI3, tI2, tI1, tI0]; omega)
  · refine lv_iload_n hx hb d_B_nearest_5 rfl (lv_at hl 3 rfl) ?_
    refine lv_sipush (v := 4096) hx hb d_B_nearest_6 (by decide) ?_
    refine lv_icmp_le (tgt := 22) hx hb d_B_nearest_9 (by decide) (fun c_9 => ?_) (fun c_9 => ?_)
    · refine lv_iload_n hx hb d_B_nearest_22 rfl (lv_at hl 1 rfl) ?_
      refine lv_iload_n hx hb d_B_nearest_23 rfl (lv_at hl 2 rfl) ?_
      exact th_out ht C0.2.2.2.2.2.2 (xrunS C0 (t_B_requirePlace l hlt G w px py h) (cs_B_90 C0 ⟨by decide, by decide⟩) hH hS rfl hl.1 rfl (lv_room (Nat.le_of_ble_eq_true rfl)) d_B_nearest_24 ⟨Nat.le_refl _, Nat.le_refl _⟩)
    · exact absurd hm (by unfold okM; revert c_9 c_2; simp only [Int32.le_iff_toInt_le, Int32.lt_iff_toInt_lt, tI9, tIm9, tI4096, tI3, tI2, tI1, tI0]; omega)
end
section
/-! the model's own questions -/
section HDZ
variable {p : Program} {l : Launch} {e : Env} {R : Room} {s : State} {m : MethodId} {args : Array Value} {below : List Frame} {meth : Method} {c : Code} {H : Heap} {locs : List Loc} {cells slots : Nat} {Q : State → Prop}
variable {cc : ByteArray} {pc : Nat} {ls : Array Slot} {rest : List Value} {D : va_G} {cl : List vw_C} {A : Nat → Prop} {a : Nat} {tys : List (ClassId × FieldType)} {w : Nat → Option va_E} {H0 : Heap}
theorem hd_zald (hexec : p.tables.exec = Jvm.exec) (hb : c.code = cc) (hK : va_K D cl tys s) (hH : Hd D cl A w H) (t0 : Nat) {cA : ClassId} {n : Nat} {f : Nat → Int32} (ha : w a = some (.inl (cA, n, .inl f))) (ht : tys[t0]? = some (cA, .boolean)) {i : Int32} (hin : vp_in i n) (hdg : decode cc pc = .ok (.baload, 1))
    (kk : W p l e R s m args below meth c H locs cells slots Q (F0 m (pc + 1) ls (.int (f i.toNatClampNeg) :: rest))) : W p l e R s m args below meth c H locs cells slots Q (F0 m pc ls (.int i :: .ref a :: rest)) := by
  obtain ⟨ws, hP, hD, hw⟩ := hH
  obtain ⟨k0, hk0⟩ := hd_ix hw ha
  exact va_zald hexec hb hK hP k0 t0 hk0 ht hin hdg kk
theorem hd_zast (hexec : p.tables.exec = Jvm.exec) (hb : c.code = cc) (hK : va_K D cl tys s) (hH : Hd D cl A w H) (hS : va_S A H0 H locs) (t0 : Nat) {cA : ClassId} {n : Nat} {f : Nat → Int32} (ha : w a = some (.inl (cA, n, .inl f))) (ht : tys[t0]? = some (cA, .boolean)) {i : Int32} {x : Int32} (hin : vp_in i n) (hnx : vp_nar .boolean x = x) (hdg : decode cc pc = .ok (.bastore, 1))
    (kk : ∀ (H1 : Heap) (locs1 : List Loc), Hd D cl A (va_up w a (some (.inl (cA, n, .inl (upd f i.toNatClampNeg x))))) H1 → va_S A H0 H1 locs1 → W p l e R s m args below meth c H1 locs1 cells slots Q (F0 m (pc + 1) ls rest)) : W p l e R s m args below meth c H locs cells slots Q (F0 m pc ls (.int x :: .int i :: .ref a :: rest)) := by
  obtain ⟨ws, hP, hD, hw⟩ := hH
  obtain ⟨k0, hk0⟩ := hd_ix hw ha
  exact va_zast hexec hb hK hP hD hS k0 t0 hk0 ht hin hdg (fun H1 locs1 hP1 hD1 hS1 => kk H1 locs1 (by rw [hnx] at hP1 hD1; exact ⟨_, hP1, hD1, hd_set hw hD hk0⟩) hS1)
end HDZ
def MDis (aT aX aY aU aV aR : Nat) : Prop := aT ≠ aX ∧ aT ≠ aY ∧ aT ≠ aU ∧ aT ≠ aV ∧ aT ≠ aR ∧ aX ≠ aY ∧ aX ≠ aU ∧ aX ≠ aV ∧ aX ≠ aR ∧ aY ≠ aU ∧ aY ≠ aV ∧ aY ≠ aR ∧ aU ≠ aV ∧ aU ≠ aR ∧ aV ≠ aR
/-- the model at y -/
def MAt (G : Gl) (w : World) (y aT aX aY aU aV aR : Nat) (tc : Int32) (th lx ly ux uy : Nat → Int32) (sz : Nat) (rf : Nat → Int32) : Prop :=
  w y = some (.inr (3, [.int tc, .ref aT, .ref aX, .ref aY, .ref aU, .ref aV, .int (nI sz), .ref aR])) ∧ w aT = some (.inl (G.2.1.2.2.1, 4096, .inl th)) ∧ w aX = some (.inl (G.2.1.1, 4096, .inl lx)) ∧ w aY = some (.inl (G.2.1.1, 4096, .inl ly)) ∧ w aU = some (.inl (G.2.1.1, 4096, .inl ux)) ∧ w aV = some (.inl (G.2.1.1, 4096, .inl uy)) ∧ w aR = some (.inl (G.2.1.1, 4096, .inl rf)) ∧ MDis aT aX aY aU aV aR
/-- the model's box i -/
def mb (lx ly ux uy : Nat → Int32) (i : Nat) : Bx := (nI i, lx i, ly i, ux i, uy i)
def cntT (th : Nat → Int32) : Nat → Nat
  | 0 => 0
  | n + 1 => cntT th n + if th n = 0 then 0 else 1
theorem cntT_le (th : Nat → Int32) : ∀ n : Nat, cntT th n ≤ n
  | 0 => Nat.le_refl _
  | n + 1 => by
    have := cntT_le th n
    rw [cntT]
    by_cases h : th n = 0
    · rw [if_pos h]; omega
    · rw [if_neg h]; omega
def gapL (v lo hi : Int64) : Int64 := if v < lo then lo - v else if hi < v then v - hi else 0
theorem gapL_way (v lo hi : Int32) : gapL v.toInt64 lo.toInt64 hi.toInt64 = way v lo hi := by
  have h1 : (v.toInt64 < lo.toInt64) ↔ v < lo := by rw [Int64.lt_iff_toInt_lt, Int32.lt_iff_toInt_lt, Int32.toInt_toInt64, Int32.toInt_toInt64]
  have h2 : (hi.toInt64 < v.toInt64) ↔ hi < v := by rw [Int64.lt_iff_toInt_lt, Int32.lt_iff_toInt_lt, Int32.toInt_toInt64, Int32.toInt_toInt64]
  unfold gapL way
  by_cases a : v < lo
  · rw [if_pos (h1.mpr a), if_pos a]
  · rw [if_neg (fun h => a (h1.mp h)), if_neg a]
    by_cases b : hi < v
    · rw [if_pos (h2.mpr b), if_pos b]
    · rw [if_neg (fun h => b (h2.mp h)), if_neg b]

set_option maxHeartbeats 4000000 in
set_option maxRecDepth 100000 in
theorem k_M_within (l : Launch) (G : Gl) (w : World) (v lo hi : Int32) :
    PuM l y_M_within ws_M_within 0 G w [.int v, .int lo, .int hi] (some (.int (b01 (lo ≤ v ∧ v ≤ hi)))) := by
  refine met_ent (by decide +kernel) (Nat.le_of_ble_eq_true rfl) (fun p e s m below meth c ls C0 hr hin hH hl => ?_)
  have hx := C0.1
  have hb := C0.2.1
  have hS : va_S (gA G) s.heap s.heap [] := va_S.rf
  have hl : lv_has ls 3 [(0, .int v), (1, .int lo), (2, .int hi)] := hl
  refine lv_iload_n hx hb d_M_within_0 rfl (lv_at hl 0 rfl) ?_
  refine lv_iload_n hx hb d_M_within_1 rfl (lv_at hl 1 rfl) ?_
  refine lv_icmp_lt (tgt := 14) hx hb d_M_within_2 (by decide) (fun c_2 => ?_) (fun c_2 => ?_)
  · refine lv_iconst (v := 0) hx hb d_M_within_14 (by decide) ?_
    exact W.zret hx hb hr rfl (fun t ht _ => ⟨congrArg (fun z => Outcome.returned (some (Value.int z))) (b01_f (by revert c_2; simp only [Int32.le_iff_toInt_le, Int32.lt_iff_toInt_lt, tI9, tIm9, tI4096, tI3, tI2, tI1, tI0]; omega)).symm, ht⟩) (fun _ h => by cases h) d_M_within_15 (hlocks := C0.2.2.2.2.2.2)
  · refine lv_iload_n hx hb d_M_within_5 rfl (lv_at hl 0 rfl) ?_
    refine lv_iload_n hx hb d_M_within_6 rfl (lv_at hl 2 rfl) ?_
    refine lv_icmp_gt (tgt := 14) hx hb d_M_within_7 (by decide) (fun c_7 => ?_) (fun c_7 => ?_)
    · refine lv_iconst (v := 0) hx hb d_M_within_14 (by decide) ?_
      exact W.zret hx hb hr rfl (fun t ht _ => ⟨congrArg (fun z => Outcome.returned (some (Value.int z))) (b01_f (by revert c_7 c_2; simp only [Int32.le_iff_toInt_le, Int32.lt_iff_toInt_lt, tI9, tIm9, tI4096, tI3, tI2, tI1, tI0]; omega)).symm, ht⟩) (fun _ h => by cases h) d_M_within_15 (hlocks := C0.2.2.2.2.2.2)
    · refine lv_iconst (v := 1) hx hb d_M_within_10 (by decide) ?_
      refine lv_goto (tgt := 15) hx hb d_M_within_11 (by decide) ?_
      exact W.zret hx hb hr rfl (fun t ht _ => ⟨congrArg (fun z => Outcome.returned (some (Value.int z))) (b01_t (by revert c_7 c_2; simp only [Int32.le_iff_toInt_le, Int32.lt_iff_toInt_lt, tI9, tIm9, tI4096, tI3, tI2, tI1, tI0]; omega)).symm, ht⟩) (fun _ h => by cases h) d_M_within_15 (hlocks := C0.2.2.2.2.2.2)

set_option maxHeartbeats 4000000 in
set_option maxRecDepth 100000 in
theorem k_M_isFar (l : Launch) (G : Gl) (w : World) (v : Int32) :
    PuM l y_M_isFar ws_M_isFar 1 G w [.int v] (some (.int (b01 (¬ okC v)))) := by
  refine met_ent (by decide +kernel) (Nat.le_of_ble_eq_true rfl) (fun p e s m below meth c ls C0 hr hin hH hl => ?_)
  have hx := C0.1
  have hb := C0.2.1
  have hS : va_S (gA G) s.heap s.heap [] := va_S.rf
  have hl : lv_has ls 1 [(0, .int v)] := hl
  refine lv_iload_n hx hb d_M_isFar_0 rfl (lv_at hl 0 rfl) ?_
  refine W.eq (g2 := F0 m 1 ls _) rfl (W.ldc hx hb C0.2.2.2.1 (C0.2.2.2.2.1 _ mw_741) rfl d_M_isFar_1 ?_)
  refine W.eq (g2 := F0 m 3 ls [.int (-1000000000), .int v]) rfl ?_
  refine W.eq (g2 := F0 m 3 ls _) rfl (W.ldc hx hb C0.2.2.2.1 (C0.2.2.2.2.1 _ mw_742) rfl d_M_isFar_3 ?_)
  refine W.eq (g2 := F0 m 5 ls [.int 1000000000, .int (-1000000000), .int v]) rfl ?_
  refine pu_v (runS C0 (k_M_within l G w v (-1000000000) 1000000000) (cs_M_35 C0 ⟨Nat.le_of_ble_eq_true rfl, Nat.le_of_ble_eq_true rfl⟩) hH hS rfl hl.1 rfl (lv_room (Nat.le_of_ble_eq_true rfl)) d_M_isFar_5 ⟨Nat.zero_le _, Nat.zero_le _⟩) ?_
  refine lv_if_ne (tgt := 15) hx hb d_M_isFar_8 (by decide) (fun c_8 => ?_) (fun c_8 => ?_)
  · refine lv_iconst (v := 0) hx hb d_M_isFar_15 (by decide) ?_
    exact W.zret hx hb hr rfl (fun t ht _ => ⟨congrArg (fun z => Outcome.returned (some (Value.int z))) (b01_f (fun h => h (Classical.byContradiction (fun q => c_8 (b01_f q))))).symm, ht⟩) (fun _ h => by cases h) d_M_isFar_16 (hlocks := C0.2.2.2.2.2.2)
  · refine lv_iconst (v := 1) hx hb d_M_isFar_11 (by decide) ?_
    refine lv_goto (tgt := 16) hx hb d_M_isFar_12 (by decide) ?_
    exact W.zret hx hb hr rfl (fun t ht _ => ⟨congrArg (fun z => Outcome.returned (some (Value.int z))) (b01_t (fun h => absurd ((b01_t h).symm.trans c_8) (by decide))).symm, ht⟩) (fun _ h => by cases h) d_M_isFar_16 (hlocks := C0.2.2.2.2.2.2)

set_option maxHeartbeats 4000000 in
set_option maxRecDepth 100000 in
theorem k_M_areBounds (l : Launch) (G : Gl) (w : World) (x1 y1 x2 y2 : Int32) :
    PuM l y_M_areBounds ws_M_areBounds 2 G w [.int x1, .int y1, .int x2, .int y2] (some (.int (b01 (okB x1 y1 x2 y2)))) := by
  refine met_ent (by decide +kernel) (Nat.le_of_ble_eq_true rfl) (fun p e s m below meth c ls C0 hr hin hH hl => ?_)
  have hx := C0.1
  have hb := C0.2.1
  have hS : va_S (gA G) s.heap s.heap [] := va_S.rf
  have hl : lv_has ls 4 [(0, .int x1), (1, .int y1), (2, .int x2), (3, .int y2)] := hl
  refine lv_iload_n hx hb d_M_areBounds_0 rfl (lv_at hl 0 rfl) ?_
  refine pu_v (runS C0 (k_M_isFar l G w x1) (cs_M_39 C0 ⟨Nat.le_of_ble_eq_true rfl, Nat.le_of_ble_eq_true rfl⟩) hH hS rfl hl.1 rfl (lv_room (Nat.le_of_ble_eq_true rfl)) d_M_areBounds_1 ⟨Nat.zero_le _, Nat.zero_le _⟩) ?_
  refine lv_if_ne (tgt := 42) hx hb d_M_areBounds_4 (by decide) (fun c_4 => ?_) (fun c_4 => ?_)
  · refine lv_iconst (v := 0) hx hb d_M_areBounds_42 (by decide) ?_
    exact W.zret hx hb hr rfl (fun t ht _ => ⟨congrArg (fun z => Outcome.returned (some (Value.int z))) (b01_f (fun h => c_4 (b01_f (fun q => q h.1.1)))).symm, ht⟩) (fun _ h => by cases h) d_M_areBounds_43 (hlocks := C0.2.2.2.2.2.2)
  · refine lv_iload_n hx hb d_M_areBounds_7 rfl (lv_at hl 1 rfl) ?_
    refine pu_v (runS C0 (k_M_isFar l G w y1) (cs_M_39 C0 ⟨Nat.le_of_ble_eq_true rfl, Nat.le_of_ble_eq_true rfl⟩) hH hS rfl hl.1 rfl (lv_room (Nat.le_of_ble_eq_true rfl)) d_M_areBounds_8 ⟨Nat.zero_le _, Nat.zero_le _⟩) ?_
    refine lv_if_ne (tgt := 42) hx hb d_M_areBounds_11 (by decide) (fun c_11 => ?_) (fun c_11 => ?_)
    · refine lv_iconst (v := 0) hx hb d_M_areBounds_42 (by decide) ?_
      exact W.zret hx hb hr rfl (fun t ht _ => ⟨congrArg (fun z => Outcome.returned (some (Value.int z))) (b01_f (fun h => c_11 (b01_f (fun q => q h.1.2)))).symm, ht⟩) (fun _ h => by cases h) d_M_areBounds_43 (hlocks := C0.2.2.2.2.2.2)
    · refine lv_iload_n hx hb d_M_areBounds_14 rfl (lv_at hl 2 rfl) ?_
      refine pu_v (runS C0 (k_M_isFar l G w x2) (cs_M_39 C0 ⟨Nat.le_of_ble_eq_true rfl, Nat.le_of_ble_eq_true rfl⟩) hH hS rfl hl.1 rfl (lv_room (Nat.le_of_ble_eq_true rfl)) d_M_areBounds_15 ⟨Nat.zero_le _, Nat.zero_le _⟩) ?_
      refine lv_if_ne (tgt := 42) hx hb d_M_areBounds_18 (by decide) (fun c_18 => ?_) (fun c_18 => ?_)
      · refine lv_iconst (v := 0) hx hb d_M_areBounds_42 (by decide) ?_
        exact W.zret hx hb hr rfl (fun t ht _ => ⟨congrArg (fun z => Outcome.returned (some (Value.int z))) (b01_f (fun h => c_18 (b01_f (fun q => q h.2.1.1)))).symm, ht⟩) (fun _ h => by cases h) d_M_areBounds_43 (hlocks := C0.2.2.2.2.2.2)
      · refine lv_iload_n hx hb d_M_areBounds_21 rfl (lv_at hl 3 rfl) ?_
        refine pu_v (runS C0 (k_M_isFar l G w y2) (cs_M_39 C0 ⟨Nat.le_of_ble_eq_true rfl, Nat.le_of_ble_eq_true rfl⟩) hH hS rfl hl.1 rfl (lv_room (Nat.le_of_ble_eq_true rfl)) d_M_areBounds_22 ⟨Nat.zero_le _, Nat.zero_le _⟩) ?_
        refine lv_if_ne (tgt := 42) hx hb d_M_areBounds_25 (by decide) (fun c_25 => ?_) (fun c_25 => ?_)
        · refine lv_iconst (v := 0) hx hb d_M_areBounds_42 (by decide) ?_
          exact W.zret hx hb hr rfl (fun t ht _ => ⟨congrArg (fun z => Outcome.returned (some (Value.int z))) (b01_f (fun h => c_25 (b01_f (fun q => q h.2.1.2)))).symm, ht⟩) (fun _ h => by cases h) d_M_areBounds_43 (hlocks := C0.2.2.2.2.2.2)
        · refine lv_iload_n hx hb d_M_areBounds_28 rfl (lv_at hl 0 rfl) ?_
          refine lv_iload_n hx hb d_M_areBounds_29 rfl (lv_at hl 2 rfl) ?_
          refine lv_icmp_gt (tgt := 42) hx hb d_M_areBounds_30 (by decide) (fun c_30 => ?_) (fun c_30 => ?_)
          · refine lv_iconst (v := 0) hx hb d_M_areBounds_42 (by decide) ?_
            exact W.zret hx hb hr rfl (fun t ht _ => ⟨congrArg (fun z => Outcome.returned (some (Value.int z))) (b01_f (fun h => absurd c_30 (Int32.not_lt.mpr h.2.2.1))).symm, ht⟩) (fun _ h => by cases h) d_M_areBounds_43 (hlocks := C0.2.2.2.2.2.2)
          · refine lv_iload_n hx hb d_M_areBounds_33 rfl (lv_at hl 1 rfl) ?_
            refine lv_iload_n hx hb d_M_areBounds_34 rfl (lv_at hl 3 rfl) ?_
            refine lv_icmp_gt (tgt := 42) hx hb d_M_areBounds_35 (by decide) (fun c_35 => ?_) (fun c_35 => ?_)
            · refine lv_iconst (v := 0) hx hb d_M_areBounds_42 (by decide) ?_
              exact W.zret hx hb hr rfl (fun t ht _ => ⟨congrArg (fun z => Outcome.returned (some (Value.int z))) (b01_f (fun h => absurd c_35 (Int32.not_lt.mpr h.2.2.2))).symm, ht⟩) (fun _ h => by cases h) d_M_areBounds_43 (hlocks := C0.2.2.2.2.2.2)
            · refine lv_iconst (v := 1) hx hb d_M_areBounds_38 (by decide) ?_
              refine lv_goto (tgt := 43) hx hb d_M_areBounds_39 (by decide) ?_
              exact W.zret hx hb hr rfl (fun t ht _ => ⟨congrArg (fun z => Outcome.returned (some (Value.int z))) (b01_t ⟨⟨(Classical.byContradiction (fun q => absurd ((b01_t q).symm.trans (c_4)) (by decide))), (Classical.byContradiction (fun q => absurd ((b01_t q).symm.trans (c_11)) (by decide)))⟩, ⟨(Classical.byContradiction (fun q => absurd ((b01_t q).symm.trans (c_18)) (by decide))), (Classical.byContradiction (fun q => absurd ((b01_t q).symm.trans (c_25)) (by decide)))⟩, Int32.not_lt.mp c_30, Int32.not_lt.mp c_35⟩).symm, ht⟩) (fun _ h => by cases h) d_M_areBounds_43 (hlocks := C0.2.2.2.2.2.2)

set_option maxHeartbeats 4000000 in
set_option maxRecDepth 100000 in
theorem k_M_meets (l : Launch) (G : Gl) (w : World) {y aT aX aY aU aV aR sz : Nat} {tc : Int32} {th lx ly ux uy rf : Nat → Int32} (hM : MAt G w y aT aX aY aU aV aR tc th lx ly ux uy sz rf) (b : Nat) (hb9 : b < 4096) (q : Bx)  :
    PuM l y_M_meets ws_M_meets 0 G w [.ref y, .int (nI b), .int q.2.1, .int q.2.2.1, .int q.2.2.2.1, .int q.2.2.2.2] (some (.int (b01 (bMeets (mb lx ly ux uy b) q)))) := by
  refine met_ent (by decide +kernel) (Nat.le_of_ble_eq_true rfl) (fun p e s m below meth c ls C0 hr hin hH hl => ?_)
  have hx := C0.1
  have hb := C0.2.1
  have hS : va_S (gA G) s.heap s.heap [] := va_S.rf
  have hA : ∀ q : Nat, s.heap.size ≤ q → gA G q := fun q h => Nat.le_trans C0.ev.2.2.2.2.2.2.2.2.2.2.2.2 h
  have hl : lv_has ls 6 [(0, .ref y), (1, .int (nI b)), (2, .int q.2.1), (3, .int q.2.2.1), (4, .int q.2.2.2.1), (5, .int q.2.2.2.2)] := hl
  obtain ⟨hY, hT, hX, hYy, hU9, hV, hR, hDi⟩ := id hM
  refine lv_aload_n hx hb d_M_meets_0 rfl (lv_at hl 0 rfl) ?_
  refine gf_M_13 C0 hH hY rfl d_M_meets_1 ?_
  refine lv_iload_n hx hb d_M_meets_4 rfl (lv_at hl 1 rfl) ?_
  refine hd_iald hx hb C0.hK hH 0 hX rfl (vp_in_nI (by omega) (by omega)) d_M_meets_5 ?_
  rw [nI_clamp (by omega)]
  refine lv_iload hx hb d_M_meets_6 (lv_at hl 4 rfl) ?_
  refine lv_icmp_gt (tgt := 46) hx hb d_M_meets_8 (by decide) (fun c_8 => ?_) (fun c_8 => ?_)
  · refine lv_iconst (v := 0) hx hb d_M_meets_46 (by decide) ?_
    exact W.zret hx hb hr rfl (fun t ht _ => ⟨congrArg (fun z => Outcome.returned (some (Value.int z))) (b01_f (by unfold mb bMeets; revert c_8; simp only [Int32.le_iff_toInt_le, Int32.lt_iff_toInt_lt, tI9, tIm9, tI4096, tI3, tI2, tI1, tI0]; omega)).symm, ht⟩) (fun _ h => by cases h) d_M_meets_47 (hlocks := C0.2.2.2.2.2.2)
  · refine lv_aload_n hx hb d_M_meets_11 rfl (lv_at hl 0 rfl) ?_
    refine gf_M_20 C0 hH hY rfl d_M_meets_12 ?_
    refine lv_iload_n hx hb d_M_meets_15 rfl (lv_at hl 1 rfl) ?_
    refine hd_iald hx hb C0.hK hH 0 hU9 rfl (vp_in_nI (by omega) (by omega)) d_M_meets_16 ?_
    rw [nI_clamp (by omega)]
    refine lv_iload_n hx hb d_M_meets_17 rfl (lv_at hl 2 rfl) ?_
    refine lv_icmp_lt (tgt := 46) hx hb d_M_meets_18 (by decide) (fun c_18 => ?_) (fun c_18 => ?_)
    · refine lv_iconst (v := 0) hx hb d_M_meets_46 (by decide) ?_
      exact W.zret hx hb hr rfl (fun t ht _ => ⟨congrArg (fun z => Outcome.returned (some (Value.int z))) (b01_f (by unfold mb bMeets; revert c_18 c_8; simp only [Int32.le_iff_toInt_le, Int32.lt_iff_toInt_lt, tI9, tIm9, tI4096, tI3, tI2, tI1, tI0]; omega)).symm, ht⟩) (fun _ h => by cases h) d_M_meets_47 (hlocks := C0.2.2.2.2.2.2)
    · refine lv_aload_n hx hb d_M_meets_21 rfl (lv_at hl 0 rfl) ?_
      refine gf_M_17 C0 hH hY rfl d_M_meets_22 ?_
      refine lv_iload_n hx hb d_M_meets_25 rfl (lv_at hl 1 rfl) ?_
      refine hd_iald hx hb C0.hK hH 0 hYy rfl (vp_in_nI (by omega) (by omega)) d_M_meets_26 ?_
      rw [nI_clamp (by omega)]
      refine lv_iload hx hb d_M_meets_27 (lv_at hl 5 rfl) ?_
      refine lv_icmp_gt (tgt := 46) hx hb d_M_meets_29 (by decide) (fun c_29 => ?_) (fun c_29 => ?_)
      · refine lv_iconst (v := 0) hx hb d_M_meets_46 (by decide) ?_
        exact W.zret hx hb hr rfl (fun t ht _ => ⟨congrArg (fun z => Outcome.returned (some (Value.int z))) (b01_f (by unfold mb bMeets; revert c_29 c_18 c_8; simp only [Int32.le_iff_toInt_le, Int32.lt_iff_toInt_lt, tI9, tIm9, tI4096, tI3, tI2, tI1, tI0]; omega)).symm, ht⟩) (fun _ h => by cases h) d_M_meets_47 (hlocks := C0.2.2.2.2.2.2)
      · refine lv_aload_n hx hb d_M_meets_32 rfl (lv_at hl 0 rfl) ?_
        refine gf_M_23 C0 hH hY rfl d_M_meets_33 ?_
        refine lv_iload_n hx hb d_M_meets_36 rfl (lv_at hl 1 rfl) ?_
        refine hd_iald hx hb C0.hK hH 0 hV rfl (vp_in_nI (by omega) (by omega)) d_M_meets_37 ?_
        rw [nI_clamp (by omega)]
        refine lv_iload_n hx hb d_M_meets_38 rfl (lv_at hl 3 rfl) ?_
        refine lv_icmp_lt (tgt := 46) hx hb d_M_meets_39 (by decide) (fun c_39 => ?_) (fun c_39 => ?_)
        · refine lv_iconst (v := 0) hx hb d_M_meets_46 (by decide) ?_
          exact W.zret hx hb hr rfl (fun t ht _ => ⟨congrArg (fun z => Outcome.returned (some (Value.int z))) (b01_f (by unfold mb bMeets; revert c_39 c_29 c_18 c_8; simp only [Int32.le_iff_toInt_le, Int32.lt_iff_toInt_lt, tI9, tIm9, tI4096, tI3, tI2, tI1, tI0]; omega)).symm, ht⟩) (fun _ h => by cases h) d_M_meets_47 (hlocks := C0.2.2.2.2.2.2)
        · refine lv_iconst (v := 1) hx hb d_M_meets_42 (by decide) ?_
          refine lv_goto (tgt := 47) hx hb d_M_meets_43 (by decide) ?_
          exact W.zret hx hb hr rfl (fun t ht _ => ⟨congrArg (fun z => Outcome.returned (some (Value.int z))) (b01_t (by unfold mb bMeets; revert c_39 c_29 c_18 c_8; simp only [Int32.le_iff_toInt_le, Int32.lt_iff_toInt_lt, tI9, tIm9, tI4096, tI3, tI2, tI1, tI0]; omega)).symm, ht⟩) (fun _ h => by cases h) d_M_meets_47 (hlocks := C0.2.2.2.2.2.2)

set_option maxHeartbeats 4000000 in
set_option maxRecDepth 100000 in
theorem k_M_lies (l : Launch) (G : Gl) (w : World) {y aT aX aY aU aV aR sz : Nat} {tc : Int32} {th lx ly ux uy rf : Nat → Int32} (hM : MAt G w y aT aX aY aU aV aR tc th lx ly ux uy sz rf) (b : Nat) (hb9 : b < 4096) (q : Bx)  :
    PuM l y_M_lies ws_M_lies 0 G w [.ref y, .int (nI b), .int q.2.1, .int q.2.2.1, .int q.2.2.2.1, .int q.2.2.2.2] (some (.int (b01 (bIn (mb lx ly ux uy b) q)))) := by
  refine met_ent (by decide +kernel) (Nat.le_of_ble_eq_true rfl) (fun p e s m below meth c ls C0 hr hin hH hl => ?_)
  have hx := C0.1
  have hb := C0.2.1
  have hS : va_S (gA G) s.heap s.heap [] := va_S.rf
  have hA : ∀ q : Nat, s.heap.size ≤ q → gA G q := fun q h => Nat.le_trans C0.ev.2.2.2.2.2.2.2.2.2.2.2.2 h
  have hl : lv_has ls 6 [(0, .ref y), (1, .int (nI b)), (2, .int q.2.1), (3, .int q.2.2.1), (4, .int q.2.2.2.1), (5, .int q.2.2.2.2)] := hl
  obtain ⟨hY, hT, hX, hYy, hU9, hV, hR, hDi⟩ := id hM
  refine lv_aload_n hx hb d_M_lies_0 rfl (lv_at hl 0 rfl) ?_
  refine gf_M_13 C0 hH hY rfl d_M_lies_1 ?_
  refine lv_iload_n hx hb d_M_lies_4 rfl (lv_at hl 1 rfl) ?_
  refine hd_iald hx hb C0.hK hH 0 hX rfl (vp_in_nI (by omega) (by omega)) d_M_lies_5 ?_
  rw [nI_clamp (by omega)]
  refine lv_iload_n hx hb d_M_lies_6 rfl (lv_at hl 2 rfl) ?_
  refine lv_icmp_lt (tgt := 46) hx hb d_M_lies_7 (by decide) (fun c_7 => ?_) (fun c_7 => ?_)
  · refine lv_iconst (v := 0) hx hb d_M_lies_46 (by decide) ?_
    exact W.zret hx hb hr rfl (fun t ht _ => ⟨congrArg (fun z => Outcome.returned (some (Value.int z))) (b01_f (by unfold mb bIn; revert c_7; simp only [Int32.le_iff_toInt_le, Int32.lt_iff_toInt_lt, tI9, tIm9, tI4096, tI3, tI2, tI1, tI0]; omega)).symm, ht⟩) (fun _ h => by cases h) d_M_lies_47 (hlocks := C0.2.2.2.2.2.2)
  · refine lv_aload_n hx hb d_M_lies_10 rfl (lv_at hl 0 rfl) ?_
    refine gf_M_20 C0 hH hY rfl d_M_lies_11 ?_
    refine lv_iload_n hx hb d_M_lies_14 rfl (lv_at hl 1 rfl) ?_
    refine hd_iald hx hb C0.hK hH 0 hU9 rfl (vp_in_nI (by omega) (by omega)) d_M_lies_15 ?_
    rw [nI_clamp (by omega)]
    refine lv_iload hx hb d_M_lies_16 (lv_at hl 4 rfl) ?_
    refine lv_icmp_gt (tgt := 46) hx hb d_M_lies_18 (by decide) (fun c_18 => ?_) (fun c_18 => ?_)
    · refine lv_iconst (v := 0) hx hb d_M_lies_46 (by decide) ?_
      exact W.zret hx hb hr rfl (fun t ht _ => ⟨congrArg (fun z => Outcome.returned (some (Value.int z))) (b01_f (by unfold mb bIn; revert c_18 c_7; simp only [Int32.le_iff_toInt_le, Int32.lt_iff_toInt_lt, tI9, tIm9, tI4096, tI3, tI2, tI1, tI0]; omega)).symm, ht⟩) (fun _ h => by cases h) d_M_lies_47 (hlocks := C0.2.2.2.2.2.2)
    · refine lv_aload_n hx hb d_M_lies_21 rfl (lv_at hl 0 rfl) ?_
      refine gf_M_17 C0 hH hY rfl d_M_lies_22 ?_
      refine lv_iload_n hx hb d_M_lies_25 rfl (lv_at hl 1 rfl) ?_
      refine hd_iald hx hb C0.hK hH 0 hYy rfl (vp_in_nI (by omega) (by omega)) d_M_lies_26 ?_
      rw [nI_clamp (by omega)]
      refine lv_iload_n hx hb d_M_lies_27 rfl (lv_at hl 3 rfl) ?_
      refine lv_icmp_lt (tgt := 46) hx hb d_M_lies_28 (by decide) (fun c_28 => ?_) (fun c_28 => ?_)
      · refine lv_iconst (v := 0) hx hb d_M_lies_46 (by decide) ?_
        exact W.zret hx hb hr rfl (fun t ht _ => ⟨congrArg (fun z => Outcome.returned (some (Value.int z))) (b01_f (by unfold mb bIn; revert c_28 c_18 c_7; simp only [Int32.le_iff_toInt_le, Int32.lt_iff_toInt_lt, tI9, tIm9, tI4096, tI3, tI2, tI1, tI0]; omega)).symm, ht⟩) (fun _ h => by cases h) d_M_lies_47 (hlocks := C0.2.2.2.2.2.2)
      · refine lv_aload_n hx hb d_M_lies_31 rfl (lv_at hl 0 rfl) ?_
        refine gf_M_23 C0 hH hY rfl d_M_lies_32 ?_
        refine lv_iload_n hx hb d_M_lies_35 rfl (lv_at hl 1 rfl) ?_
        refine hd_iald hx hb C0.hK hH 0 hV rfl (vp_in_nI (by omega) (by omega)) d_M_lies_36 ?_
        rw [nI_clamp (by omega)]
        refine lv_iload hx hb d_M_lies_37 (lv_at hl 5 rfl) ?_
        refine lv_icmp_gt (tgt := 46) hx hb d_M_lies_39 (by decide) (fun c_39 => ?_) (fun c_39 => ?_)
        · refine lv_iconst (v := 0) hx hb d_M_lies_46 (by decide) ?_
          exact W.zret hx hb hr rfl (fun t ht _ => ⟨congrArg (fun z => Outcome.returned (some (Value.int z))) (b01_f (by unfold mb bIn; revert c_39 c_28 c_18 c_7; simp only [Int32.le_iff_toInt_le, Int32.lt_iff_toInt_lt, tI9, tIm9, tI4096, tI3, tI2, tI1, tI0]; omega)).symm, ht⟩) (fun _ h => by cases h) d_M_lies_47 (hlocks := C0.2.2.2.2.2.2)
        · refine lv_iconst (v := 1) hx hb d_M_lies_42 (by decide) ?_
          refine lv_goto (tgt := 47) hx hb d_M_lies_43 (by decide) ?_
          exact W.zret hx hb hr rfl (fun t ht _ => ⟨congrArg (fun z => Outcome.returned (some (Value.int z))) (b01_t (by unfold mb bIn; revert c_39 c_28 c_18 c_7; simp only [Int32.le_iff_toInt_le, Int32.lt_iff_toInt_lt, tI9, tIm9, tI4096, tI3, tI2, tI1, tI0]; omega)).symm, ht⟩) (fun _ h => by cases h) d_M_lies_47 (hlocks := C0.2.2.2.2.2.2)

set_option maxHeartbeats 4000000 in
set_option maxRecDepth 100000 in
theorem k_M_has (l : Launch) (G : Gl) (w : World) {y aT aX aY aU aV aR sz : Nat} {tc : Int32} {th lx ly ux uy rf : Nat → Int32} (hM : MAt G w y aT aX aY aU aV aR tc th lx ly ux uy sz rf) (b : Nat) (hb9 : b < 4096) (q : Bx)  :
    PuM l y_M_has ws_M_has 0 G w [.ref y, .int (nI b), .int q.2.1, .int q.2.2.1, .int q.2.2.2.1, .int q.2.2.2.2] (some (.int (b01 (bIn q (mb lx ly ux uy b))))) := by
  refine met_ent (by decide +kernel) (Nat.le_of_ble_eq_true rfl) (fun p e s m below meth c ls C0 hr hin hH hl => ?_)
  have hx := C0.1
  have hb := C0.2.1
  have hS : va_S (gA G) s.heap s.heap [] := va_S.rf
  have hA : ∀ q : Nat, s.heap.size ≤ q → gA G q := fun q h => Nat.le_trans C0.ev.2.2.2.2.2.2.2.2.2.2.2.2 h
  have hl : lv_has ls 6 [(0, .ref y), (1, .int (nI b)), (2, .int q.2.1), (3, .int q.2.2.1), (4, .int q.2.2.2.1), (5, .int q.2.2.2.2)] := hl
  obtain ⟨hY, hT, hX, hYy, hU9, hV, hR, hDi⟩ := id hM
  refine lv_aload_n hx hb d_M_has_0 rfl (lv_at hl 0 rfl) ?_
  refine gf_M_13 C0 hH hY rfl d_M_has_1 ?_
  refine lv_iload_n hx hb d_M_has_4 rfl (lv_at hl 1 rfl) ?_
  refine hd_iald hx hb C0.hK hH 0 hX rfl (vp_in_nI (by omega) (by omega)) d_M_has_5 ?_
  rw [nI_clamp (by omega)]
  refine lv_iload_n hx hb d_M_has_6 rfl (lv_at hl 2 rfl) ?_
  refine lv_icmp_gt (tgt := 46) hx hb d_M_has_7 (by decide) (fun c_7 => ?_) (fun c_7 => ?_)
  · refine lv_iconst (v := 0) hx hb d_M_has_46 (by decide) ?_
    exact W.zret hx hb hr rfl (fun t ht _ => ⟨congrArg (fun z => Outcome.returned (some (Value.int z))) (b01_f (by unfold mb bIn; revert c_7; simp only [Int32.le_iff_toInt_le, Int32.lt_iff_toInt_lt, tI9, tIm9, tI4096, tI3, tI2, tI1, tI0]; omega)).symm, ht⟩) (fun _ h => by cases h) d_M_has_47 (hlocks := C0.2.2.2.2.2.2)
  · refine lv_aload_n hx hb d_M_has_10 rfl (lv_at hl 0 rfl) ?_
    refine gf_M_20 C0 hH hY rfl d_M_has_11 ?_
    refine lv_iload_n hx hb d_M_has_14 rfl (lv_at hl 1 rfl) ?_
    refine hd_iald hx hb C0.hK hH 0 hU9 rfl (vp_in_nI (by omega) (by omega)) d_M_has_15 ?_
    rw [nI_clamp (by omega)]
    refine lv_iload hx hb d_M_has_16 (lv_at hl 4 rfl) ?_
    refine lv_icmp_lt (tgt := 46) hx hb d_M_has_18 (by decide) (fun c_18 => ?_) (fun c_18 => ?_)
    · refine lv_iconst (v := 0) hx hb d_M_has_46 (by decide) ?_
      exact W.zret hx hb hr rfl (fun t ht _ => ⟨congrArg (fun z => Outcome.returned (some (Value.int z))) (b01_f (by unfold mb bIn; revert c_18 c_7; simp only [Int32.le_iff_toInt_le, Int32.lt_iff_toInt_lt, tI9, tIm9, tI4096, tI3, tI2, tI1, tI0]; omega)).symm, ht⟩) (fun _ h => by cases h) d_M_has_47 (hlocks := C0.2.2.2.2.2.2)
    · refine lv_aload_n hx hb d_M_has_21 rfl (lv_at hl 0 rfl) ?_
      refine gf_M_17 C0 hH hY rfl d_M_has_22 ?_
      refine lv_iload_n hx hb d_M_has_25 rfl (lv_at hl 1 rfl) ?_
      refine hd_iald hx hb C0.hK hH 0 hYy rfl (vp_in_nI (by omega) (by omega)) d_M_has_26 ?_
      rw [nI_clamp (by omega)]
      refine lv_iload_n hx hb d_M_has_27 rfl (lv_at hl 3 rfl) ?_
      refine lv_icmp_gt (tgt := 46) hx hb d_M_has_28 (by decide) (fun c_28 => ?_) (fun c_28 => ?_)
      · refine lv_iconst (v := 0) hx hb d_M_has_46 (by decide) ?_
        exact W.zret hx hb hr rfl (fun t ht _ => ⟨congrArg (fun z => Outcome.returned (some (Value.int z))) (b01_f (by unfold mb bIn; revert c_28 c_18 c_7; simp only [Int32.le_iff_toInt_le, Int32.lt_iff_toInt_lt, tI9, tIm9, tI4096, tI3, tI2, tI1, tI0]; omega)).symm, ht⟩) (fun _ h => by cases h) d_M_has_47 (hlocks := C0.2.2.2.2.2.2)
      · refine lv_aload_n hx hb d_M_has_31 rfl (lv_at hl 0 rfl) ?_
        refine gf_M_23 C0 hH hY rfl d_M_has_32 ?_
        refine lv_iload_n hx hb d_M_has_35 rfl (lv_at hl 1 rfl) ?_
        refine hd_iald hx hb C0.hK hH 0 hV rfl (vp_in_nI (by omega) (by omega)) d_M_has_36 ?_
        rw [nI_clamp (by omega)]
        refine lv_iload hx hb d_M_has_37 (lv_at hl 5 rfl) ?_
        refine lv_icmp_lt (tgt := 46) hx hb d_M_has_39 (by decide) (fun c_39 => ?_) (fun c_39 => ?_)
        · refine lv_iconst (v := 0) hx hb d_M_has_46 (by decide) ?_
          exact W.zret hx hb hr rfl (fun t ht _ => ⟨congrArg (fun z => Outcome.returned (some (Value.int z))) (b01_f (by unfold mb bIn; revert c_39 c_28 c_18 c_7; simp only [Int32.le_iff_toInt_le, Int32.lt_iff_toInt_lt, tI9, tIm9, tI4096, tI3, tI2, tI1, tI0]; omega)).symm, ht⟩) (fun _ h => by cases h) d_M_has_47 (hlocks := C0.2.2.2.2.2.2)
        · refine lv_iconst (v := 1) hx hb d_M_has_42 (by decide) ?_
          refine lv_goto (tgt := 47) hx hb d_M_has_43 (by decide) ?_
          exact W.zret hx hb hr rfl (fun t ht _ => ⟨congrArg (fun z => Outcome.returned (some (Value.int z))) (b01_t (by unfold mb bIn; revert c_39 c_28 c_18 c_7; simp only [Int32.le_iff_toInt_le, Int32.lt_iff_toInt_lt, tI9, tIm9, tI4096, tI3, tI2, tI1, tI0]; omega)).symm, ht⟩) (fun _ h => by cases h) d_M_has_47 (hlocks := C0.2.2.2.2.2.2)

set_option maxHeartbeats 4000000 in
set_option maxRecDepth 100000 in
theorem k_M_gap (l : Launch) (G : Gl) (w : World) (v lo hi : Int64) :
    PuM l y_M_gap ws_M_gap 0 G w [.long v, .long lo, .long hi] (some (.long (gapL v lo hi))) := by
  refine met_ent (by decide +kernel) (Nat.le_of_ble_eq_true rfl) (fun p e s m below meth c ls C0 hr hin hH hl => ?_)
  have hx := C0.1
  have hb := C0.2.1
  have hS : va_S (gA G) s.heap s.heap [] := va_S.rf
  have hA : ∀ q : Nat, s.heap.size ≤ q → gA G q := fun q h => Nat.le_trans C0.ev.2.2.2.2.2.2.2.2.2.2.2.2 h
  have hl : lv_has ls 6 [(0, .long v), (2, .long lo), (4, .long hi)] := hl
  refine lv_lload_n hx hb d_M_gap_0 rfl (lv_at hl 0 rfl) ?_
  refine lv_lload_n hx hb d_M_gap_1 rfl (lv_at hl 1 rfl) ?_
  refine W.lcmp hx hb d_M_gap_2 ?_
  refine lv_if_ge (tgt := 12) hx hb d_M_gap_3 (by decide) (fun c_3 => ?_) (fun c_3 => ?_)
  · refine lv_lload_n hx hb d_M_gap_12 rfl (lv_at hl 0 rfl) ?_
    refine lv_lload hx hb d_M_gap_13 (lv_at hl 2 rfl) ?_
    refine W.lcmp hx hb d_M_gap_15 ?_
    refine lv_if_le (tgt := 26) hx hb d_M_gap_16 (by decide) (fun c_16 => ?_) (fun c_16 => ?_)
    · refine lv_lconst (v := 0) hx hb d_M_gap_26 (by decide) ?_
      exact W.lret hx hb hr (fun t ht _ => ⟨congrArg (fun z => Outcome.returned (some (Value.long z))) (by unfold gapL; rw [if_neg (i64_nlt.mpr ((lg_cmp_ge _ _).mp c_3)), if_neg (i64_nlt.mpr ((lg_cmp_le _ _).mp c_16))]), ht⟩) (fun _ h => by cases h) d_M_gap_27 (hlocks := C0.2.2.2.2.2.2)
    · refine lv_lload_n hx hb d_M_gap_19 rfl (lv_at hl 0 rfl) ?_
      refine lv_lload hx hb d_M_gap_20 (lv_at hl 2 rfl) ?_
      refine lv_lsub hx hb d_M_gap_22 ?_
      refine lv_goto (tgt := 27) hx hb d_M_gap_23 (by decide) ?_
      exact W.lret hx hb hr (fun t ht _ => ⟨congrArg (fun z => Outcome.returned (some (Value.long z))) (by unfold gapL; rw [if_neg (i64_nlt.mpr ((lg_cmp_ge _ _).mp c_3)), if_pos (Classical.byContradiction (fun h => c_16 ((lg_cmp_le _ _).mpr (i64_nlt.mp h))))]), ht⟩) (fun _ h => by cases h) d_M_gap_27 (hlocks := C0.2.2.2.2.2.2)
  · refine lv_lload_n hx hb d_M_gap_6 rfl (lv_at hl 1 rfl) ?_
    refine lv_lload_n hx hb d_M_gap_7 rfl (lv_at hl 0 rfl) ?_
    refine lv_lsub hx hb d_M_gap_8 ?_
    refine lv_goto (tgt := 27) hx hb d_M_gap_9 (by decide) ?_
    exact W.lret hx hb hr (fun t ht _ => ⟨congrArg (fun z => Outcome.returned (some (Value.long z))) (by unfold gapL; rw [if_pos (Classical.byContradiction (fun h => c_3 ((lg_cmp_ge _ _).mpr (i64_nlt.mp h))))]), ht⟩) (fun _ h => by cases h) d_M_gap_27 (hlocks := C0.2.2.2.2.2.2)

set_option maxHeartbeats 4000000 in
set_option maxRecDepth 100000 in
theorem k_M_away (l : Launch) (G : Gl) (w : World) {y aT aX aY aU aV aR sz : Nat} {tc : Int32} {th lx ly ux uy rf : Nat → Int32} (hM : MAt G w y aT aX aY aU aV aR tc th lx ly ux uy sz rf) (b : Nat) (hb9 : b < 4096) (px py : Int32)  :
    PuM l y_M_away ws_M_away 1 G w [.ref y, .int (nI b), .int px, .int py] (some (.long (bDst (mb lx ly ux uy b) px py))) := by
  refine met_ent (by decide +kernel) (Nat.le_of_ble_eq_true rfl) (fun p e s m below meth c ls C0 hr hin hH hl => ?_)
  have hx := C0.1
  have hb := C0.2.1
  have hS : va_S (gA G) s.heap s.heap [] := va_S.rf
  have hA : ∀ q : Nat, s.heap.size ≤ q → gA G q := fun q h => Nat.le_trans C0.ev.2.2.2.2.2.2.2.2.2.2.2.2 h
  have hl : lv_has ls 8 [(0, .ref y), (1, .int (nI b)), (2, .int px), (3, .int py)] := hl
  obtain ⟨hY, hT, hX, hYy, hU9, hV, hR, hDi⟩ := id hM
  refine lv_iload_n hx hb d_M_away_0 rfl (lv_at hl 2 rfl) ?_
  refine lv_i2l hx hb d_M_away_1 rfl ?_
  refine lv_aload_n hx hb d_M_away_2 rfl (lv_at hl 0 rfl) ?_
  refine gf_M_13 C0 hH hY rfl d_M_away_3 ?_
  refine lv_iload_n hx hb d_M_away_6 rfl (lv_at hl 1 rfl) ?_
  refine hd_iald hx hb C0.hK hH 0 hX rfl (vp_in_nI (by omega) (by omega)) d_M_away_7 ?_
  rw [nI_clamp (by omega)]
  refine lv_i2l hx hb d_M_away_8 rfl ?_
  refine lv_aload_n hx hb d_M_away_9 rfl (lv_at hl 0 rfl) ?_
  refine gf_M_20 C0 hH hY rfl d_M_away_10 ?_
  refine lv_iload_n hx hb d_M_away_13 rfl (lv_at hl 1 rfl) ?_
  refine hd_iald hx hb C0.hK hH 0 hU9 rfl (vp_in_nI (by omega) (by omega)) d_M_away_14 ?_
  rw [nI_clamp (by omega)]
  refine lv_i2l hx hb d_M_away_15 rfl ?_
  refine pu_v (runS C0 (k_M_gap l G w px.toInt64 (lx b).toInt64 (ux b).toInt64) (cs_M_68 C0 ⟨Nat.le_of_ble_eq_true rfl, Nat.le_of_ble_eq_true rfl⟩) hH hS rfl hl.1 rfl (lv_room (Nat.le_of_ble_eq_true rfl)) d_M_away_16 ⟨by show _ ≤ 0; omega, by show _ ≤ 0; omega⟩) ?_
  refine lv_lstore (lv' := [(4, .long (gapL px.toInt64 (lx b).toInt64 (ux b).toInt64)), (0, .ref y), (1, .int (nI b)), (2, .int px), (3, .int py)]) hx hb d_M_away_19 hl (by decide) rfl (fun ls hl => ?_)
  refine lv_iload_n hx hb d_M_away_21 rfl (lv_at hl 4 rfl) ?_
  refine lv_i2l hx hb d_M_away_22 rfl ?_
  refine lv_aload_n hx hb d_M_away_23 rfl (lv_at hl 1 rfl) ?_
  refine gf_M_17 C0 hH hY rfl d_M_away_24 ?_
  refine lv_iload_n hx hb d_M_away_27 rfl (lv_at hl 2 rfl) ?_
  refine hd_iald hx hb C0.hK hH 0 hYy rfl (vp_in_nI (by omega) (by omega)) d_M_away_28 ?_
  rw [nI_clamp (by omega)]
  refine lv_i2l hx hb d_M_away_29 rfl ?_
  refine lv_aload_n hx hb d_M_away_30 rfl (lv_at hl 1 rfl) ?_
  refine gf_M_23 C0 hH hY rfl d_M_away_31 ?_
  refine lv_iload_n hx hb d_M_away_34 rfl (lv_at hl 2 rfl) ?_
  refine hd_iald hx hb C0.hK hH 0 hV rfl (vp_in_nI (by omega) (by omega)) d_M_away_35 ?_
  rw [nI_clamp (by omega)]
  refine lv_i2l hx hb d_M_away_36 rfl ?_
  refine pu_v (runS C0 (k_M_gap l G w py.toInt64 (ly b).toInt64 (uy b).toInt64) (cs_M_68 C0 ⟨Nat.le_of_ble_eq_true rfl, Nat.le_of_ble_eq_true rfl⟩) hH hS rfl hl.1 rfl (lv_room (Nat.le_of_ble_eq_true rfl)) d_M_away_37 ⟨by show _ ≤ 0; omega, by show _ ≤ 0; omega⟩) ?_
  refine lv_lstore (lv' := [(6, .long (gapL py.toInt64 (ly b).toInt64 (uy b).toInt64)), (4, .long (gapL px.toInt64 (lx b).toInt64 (ux b).toInt64)), (0, .ref y), (1, .int (nI b)), (2, .int px), (3, .int py)]) hx hb d_M_away_40 hl (by decide) rfl (fun ls hl => ?_)
  refine lv_lload hx hb d_M_away_42 (lv_at hl 1 rfl) ?_
  refine lv_lload hx hb d_M_away_44 (lv_at hl 1 rfl) ?_
  refine lv_lmul hx hb d_M_away_46 ?_
  refine lv_lload hx hb d_M_away_47 (lv_at hl 0 rfl) ?_
  refine lv_lload hx hb d_M_away_49 (lv_at hl 0 rfl) ?_
  refine lv_lmul hx hb d_M_away_51 ?_
  refine lv_ladd hx hb d_M_away_52 ?_
  exact W.lret hx hb hr (fun t ht _ => ⟨by rw [gapL_way, gapL_way]; rfl, ht⟩) (fun _ h => by cases h) d_M_away_53 (hlocks := C0.2.2.2.2.2.2)

set_option maxHeartbeats 4000000 in
set_option maxRecDepth 100000 in
theorem k_M_bound (l : Launch) (G : Gl) (w : World) {y aT aX aY aU aV aR sz : Nat} {tc : Int32} {th lx ly ux uy rf : Nat → Int32} (hM : MAt G w y aT aX aY aU aV aR tc th lx ly ux uy sz rf) (b : Nat) (hb9 : b < 4096) (z : Int32)  :
    PuM l y_M_bound ws_M_bound 0 G w [.ref y, .int (nI b), .int z] (some (.int (bnd (mb lx ly ux uy b) z))) := by
  refine met_ent (by decide +kernel) (Nat.le_of_ble_eq_true rfl) (fun p e s m below meth c ls C0 hr hin hH hl => ?_)
  have hx := C0.1
  have hb := C0.2.1
  have hS : va_S (gA G) s.heap s.heap [] := va_S.rf
  have hA : ∀ q : Nat, s.heap.size ≤ q → gA G q := fun q h => Nat.le_trans C0.ev.2.2.2.2.2.2.2.2.2.2.2.2 h
  have hl : lv_has ls 3 [(0, .ref y), (1, .int (nI b)), (2, .int z)] := hl
  obtain ⟨hY, hT, hX, hYy, hU9, hV, hR, hDi⟩ := id hM
  refine lv_iload_n hx hb d_M_bound_0 rfl (lv_at hl 2 rfl) ?_
  refine lv_if_ne (tgt := 13) hx hb d_M_bound_1 (by decide) (fun c_1 => ?_) (fun c_1 => ?_)
  · refine lv_iload_n hx hb d_M_bound_13 rfl (lv_at hl 2 rfl) ?_
    refine lv_iconst (v := 1) hx hb d_M_bound_14 (by decide) ?_
    refine lv_icmp_ne (tgt := 27) hx hb d_M_bound_15 (by decide) (fun c_15 => ?_) (fun c_15 => ?_)
    · refine lv_iload_n hx hb d_M_bound_27 rfl (lv_at hl 2 rfl) ?_
      refine lv_iconst (v := 2) hx hb d_M_bound_28 (by decide) ?_
      refine lv_icmp_ne (tgt := 41) hx hb d_M_bound_29 (by decide) (fun c_29 => ?_) (fun c_29 => ?_)
      · refine lv_aload_n hx hb d_M_bound_41 rfl (lv_at hl 0 rfl) ?_
        refine gf_M_23 C0 hH hY rfl d_M_bound_42 ?_
        refine lv_iload_n hx hb d_M_bound_45 rfl (lv_at hl 1 rfl) ?_
        refine hd_iald hx hb C0.hK hH 0 hV rfl (vp_in_nI (by omega) (by omega)) d_M_bound_46 ?_
        rw [nI_clamp (by omega)]
        exact W.iret hx hb hr (fun t ht _ => ⟨congrArg (fun z => Outcome.returned (some (Value.int z))) (by unfold bnd mb; rw [if_neg c_1, if_neg c_15, if_neg c_29]), ht⟩) (fun _ h => by cases h) d_M_bound_47 (hlocks := C0.2.2.2.2.2.2)
      · refine lv_aload_n hx hb d_M_bound_32 rfl (lv_at hl 0 rfl) ?_
        refine gf_M_20 C0 hH hY rfl d_M_bound_33 ?_
        refine lv_iload_n hx hb d_M_bound_36 rfl (lv_at hl 1 rfl) ?_
        refine hd_iald hx hb C0.hK hH 0 hU9 rfl (vp_in_nI (by omega) (by omega)) d_M_bound_37 ?_
        rw [nI_clamp (by omega)]
        refine lv_goto (tgt := 47) hx hb d_M_bound_38 (by decide) ?_
        exact W.iret hx hb hr (fun t ht _ => ⟨congrArg (fun z => Outcome.returned (some (Value.int z))) (by unfold bnd mb; rw [if_neg c_1, if_neg c_15, if_pos (c_29)]), ht⟩) (fun _ h => by cases h) d_M_bound_47 (hlocks := C0.2.2.2.2.2.2)
    · refine lv_aload_n hx hb d_M_bound_18 rfl (lv_at hl 0 rfl) ?_
      refine gf_M_17 C0 hH hY rfl d_M_bound_19 ?_
      refine lv_iload_n hx hb d_M_bound_22 rfl (lv_at hl 1 rfl) ?_
      refine hd_iald hx hb C0.hK hH 0 hYy rfl (vp_in_nI (by omega) (by omega)) d_M_bound_23 ?_
      rw [nI_clamp (by omega)]
      refine lv_goto (tgt := 47) hx hb d_M_bound_24 (by decide) ?_
      exact W.iret hx hb hr (fun t ht _ => ⟨congrArg (fun z => Outcome.returned (some (Value.int z))) (by unfold bnd mb; rw [if_neg c_1, if_pos (c_15)]), ht⟩) (fun _ h => by cases h) d_M_bound_47 (hlocks := C0.2.2.2.2.2.2)
  · refine lv_aload_n hx hb d_M_bound_4 rfl (lv_at hl 0 rfl) ?_
    refine gf_M_13 C0 hH hY rfl d_M_bound_5 ?_
    refine lv_iload_n hx hb d_M_bound_8 rfl (lv_at hl 1 rfl) ?_
    refine hd_iald hx hb C0.hK hH 0 hX rfl (vp_in_nI (by omega) (by omega)) d_M_bound_9 ?_
    rw [nI_clamp (by omega)]
    refine lv_goto (tgt := 47) hx hb d_M_bound_10 (by decide) ?_
    exact W.iret hx hb hr (fun t ht _ => ⟨congrArg (fun z => Outcome.returned (some (Value.int z))) (by unfold bnd mb; rw [if_pos (c_1)]), ht⟩) (fun _ h => by cases h) d_M_bound_47 (hlocks := C0.2.2.2.2.2.2)

theorem pk_add0 (n : Nat) : nI n + 0 = nI (n + 0) := nI_add n 0

set_option maxHeartbeats 4000000 in
set_option maxRecDepth 100000 in
theorem k_M_many (l : Launch) (G : Gl) (w : World) {y aT aX aY aU aV aR sz : Nat} {tc : Int32} {th lx ly ux uy rf : Nat → Int32} (hM : MAt G w y aT aX aY aU aV aR tc th lx ly ux uy sz rf)  :
    PuM l y_M_many ws_M_many 0 G w [.ref y] (some (.int (nI (cntT th 4096)))) := by
  refine met_ent (by decide +kernel) (Nat.le_of_ble_eq_true rfl) (fun p e s m below meth c ls C0 hr hin hH hl => ?_)
  have hx := C0.1
  have hb := C0.2.1
  have hS : va_S (gA G) s.heap s.heap [] := va_S.rf
  have hA : ∀ q : Nat, s.heap.size ≤ q → gA G q := fun q h => Nat.le_trans C0.ev.2.2.2.2.2.2.2.2.2.2.2.2 h
  have hl : lv_has ls 3 [(0, .ref y)] := hl
  obtain ⟨hY, hT, hX, hYy, hU9, hV, hR, hDi⟩ := id hM
  refine lv_iconst (v := 0) hx hb d_M_many_0 (by decide) ?_
  refine lv_istore_n (lv' := [(1, .int 0), (0, .ref y)]) hx hb d_M_many_1 rfl hl (by decide) rfl (fun ls hl => ?_)
  refine lv_iconst (v := 0) hx hb d_M_many_2 (by decide) ?_
  refine lv_istore_n (lv' := [(2, .int 0), (1, .int 0), (0, .ref y)]) hx hb d_M_many_3 rfl hl (by decide) rfl (fun ls hl => ?_)
  have loop : ∀ (u j : Nat), j + u = 4096 → ∀ ls : Array Slot, lv_has ls 3 [(0, .ref y), (1, .int (nI (cntT th j))), (2, .int (nI j))] → W p l e (rmK 0 0 0) s m [.ref y].toArray below meth c s.heap [] 0 0 (MQ below (PuQ (some (.int (nI (cntT th 4096))))) [.ref y].toArray s 0 0 (fun _ => False)) (F0 m 4 ls []) := by
    intro u
    induction u with
    | zero =>
      intro j hj ls hl
      have hcn := cntT_le th j
      refine lv_iload_n hx hb d_M_many_4 rfl (lv_at hl 2 rfl) ?_
      refine lv_sipush (v := 4096) hx hb d_M_many_5 (by decide) ?_
      refine lv_icmp_ge (tgt := 34) hx hb d_M_many_8 (by decide) (fun c_8 => ?_) (fun c_8 => ?_)
      · refine lv_iload_n hx hb d_M_many_34 rfl (lv_at hl 1 rfl) ?_
        exact W.iret hx hb hr (fun t ht _ => ⟨by rw [show j = 4096 by omega], ht⟩) (fun _ h => by cases h) d_M_many_35 (hlocks := C0.2.2.2.2.2.2)
      · exact absurd (show nI 4096 ≤ nI j from nI_le (by omega) (by omega)) c_8
    | succ u ih =>
      intro j hj ls hl
      have hcn := cntT_le th j
      refine lv_iload_n hx hb d_M_many_4 rfl (lv_at hl 2 rfl) ?_
      refine lv_sipush (v := 4096) hx hb d_M_many_5 (by decide) ?_
      refine lv_icmp_ge (tgt := 34) hx hb d_M_many_8 (by decide) (fun c_8 => ?_) (fun c_8 => ?_)
      · exact absurd c_8 (Int32.not_le.mpr (show nI j < nI 4096 from nI_lt (by omega) (by omega)))
      · refine lv_iload_n hx hb d_M_many_11 rfl (lv_at hl 1 rfl) ?_
        refine lv_aload_n hx hb d_M_many_12 rfl (lv_at hl 0 rfl) ?_
        refine gf_M_7 C0 hH hY rfl d_M_many_13 ?_
        refine lv_iload_n hx hb d_M_many_16 rfl (lv_at hl 2 rfl) ?_
        refine hd_zald hx hb C0.hK hH 2 hT rfl (vp_in_nI (by omega) (by omega)) d_M_many_17 ?_
        rw [nI_clamp (by omega)]
        refine lv_if_eq (tgt := 25) hx hb d_M_many_18 (by decide) (fun c_18 => ?_) (fun c_18 => ?_)
        · refine lv_iconst (v := 0) hx hb d_M_many_25 (by decide) ?_
          refine lv_iadd hx hb d_M_many_26 ?_
          refine lv_istore_n (lv' := [(1, .int ((nI (cntT th j)) + 0)), (0, .ref y), (2, .int (nI j))]) hx hb d_M_many_27 rfl hl (by decide) rfl (fun ls hl => ?_)
          obtain ⟨y_1, ey_1⟩ : ∃ z : Int32, z = (nI j) + 1 := ⟨_, rfl⟩
          refine lv_iinc (v := y_1) (lv' := [(2, .int y_1), (1, .int ((nI (cntT th j)) + 0)), (0, .ref y)]) hx hb d_M_many_28 hl (k := 2) rfl (by rw [ey_1]; rfl) (by decide) rfl (fun ls hl => ?_)
          refine lv_goto (tgt := 4) hx hb d_M_many_31 (by decide) ?_
          rw [show y_1 = nI (j + 1) from by rw [ey_1]; exact nI_1 j, show ((nI (cntT th j)) + 0) = nI (cntT th (j + 1)) from by rw [cntT, if_pos c_18]; exact pk_add0 _] at hl
          exact ih (j + 1) (by omega) ls (lv_sub hl [2, 1, 0] rfl)
        · refine lv_iconst (v := 1) hx hb d_M_many_21 (by decide) ?_
          refine lv_goto (tgt := 26) hx hb d_M_many_22 (by decide) ?_
          refine lv_iadd hx hb d_M_many_26 ?_
          refine lv_istore_n (lv' := [(1, .int ((nI (cntT th j)) + 1)), (0, .ref y), (2, .int (nI j))]) hx hb d_M_many_27 rfl hl (by decide) rfl (fun ls hl => ?_)
          obtain ⟨y_2, ey_2⟩ : ∃ z : Int32, z = (nI j) + 1 := ⟨_, rfl⟩
          refine lv_iinc (v := y_2) (lv' := [(2, .int y_2), (1, .int ((nI (cntT th j)) + 1)), (0, .ref y)]) hx hb d_M_many_28 hl (k := 2) rfl (by rw [ey_2]; rfl) (by decide) rfl (fun ls hl => ?_)
          refine lv_goto (tgt := 4) hx hb d_M_many_31 (by decide) ?_
          rw [show y_2 = nI (j + 1) from by rw [ey_2]; exact nI_1 j, show ((nI (cntT th j)) + 1) = nI (cntT th (j + 1)) from by rw [cntT, if_neg c_18]; exact nI_1 _] at hl
          exact ih (j + 1) (by omega) ls (lv_sub hl [2, 1, 0] rfl)
  exact loop 4096 0 rfl ls (lv_sub hl [2, 1, 0] rfl)

set_option maxHeartbeats 4000000 in
set_option maxRecDepth 100000 in
theorem k_M_isThere (l : Launch) (G : Gl) (w : World) {y aT aX aY aU aV aR sz : Nat} {tc : Int32} {th lx ly ux uy rf : Nat → Int32} (hM : MAt G w y aT aX aY aU aV aR tc th lx ly ux uy sz rf) (b : Nat) (hb9 : b < 4096)  :
    PuM l y_M_isThere ws_M_isThere 1 G w [.ref y, .int (nI b)] (some (.int (b01 (th b ≠ 0)))) := by
  refine met_ent (by decide +kernel) (Nat.le_of_ble_eq_true rfl) (fun p e s m below meth c ls C0 hr hin hH hl => ?_)
  have hx := C0.1
  have hb := C0.2.1
  have hS : va_S (gA G) s.heap s.heap [] := va_S.rf
  have hA : ∀ q : Nat, s.heap.size ≤ q → gA G q := fun q h => Nat.le_trans C0.ev.2.2.2.2.2.2.2.2.2.2.2.2 h
  have hl : lv_has ls 2 [(0, .ref y), (1, .int (nI b))] := hl
  obtain ⟨hY, hT, hX, hYy, hU9, hV, hR, hDi⟩ := id hM
  refine lv_iload_n hx hb d_M_isThere_0 rfl (lv_at hl 1 rfl) ?_
  refine lv_iconst (v := 0) hx hb d_M_isThere_1 (by decide) ?_
  refine lv_sipush (v := 4095) hx hb d_M_isThere_2 (by decide) ?_
  refine pu_v (runS C0 (k_M_within l G w (nI b) 0 4095) (cs_M_35 C0 ⟨Nat.le_of_ble_eq_true rfl, Nat.le_of_ble_eq_true rfl⟩) hH hS rfl hl.1 rfl (lv_room (Nat.le_of_ble_eq_true rfl)) d_M_isThere_5 ⟨by show _ ≤ 0; omega, by show _ ≤ 0; omega⟩) ?_
  refine lv_if_eq (tgt := 24) hx hb d_M_isThere_8 (by decide) (fun c_8 => ?_) (fun c_8 => ?_)
  · refine lv_iconst (v := 0) hx hb d_M_isThere_24 (by decide) ?_
    exact W.zret hx hb hr rfl (fun t ht _ => ⟨congrArg (fun z => Outcome.returned (some (Value.int z))) (absurd ((b01_t (show (0 : Int32) ≤ nI b ∧ nI b ≤ 4095 from ⟨show nI 0 ≤ nI b from nI_le (Nat.zero_le _) (by omega), show nI b ≤ nI 4095 from nI_le (by omega) (by omega)⟩)).symm.trans c_8) (by decide)), ht⟩) (fun _ h => by cases h) d_M_isThere_25 (hlocks := C0.2.2.2.2.2.2)
  · refine lv_aload_n hx hb d_M_isThere_11 rfl (lv_at hl 0 rfl) ?_
    refine gf_M_7 C0 hH hY rfl d_M_isThere_12 ?_
    refine lv_iload_n hx hb d_M_isThere_15 rfl (lv_at hl 1 rfl) ?_
    refine hd_zald hx hb C0.hK hH 2 hT rfl (vp_in_nI (by omega) (by omega)) d_M_isThere_16 ?_
    rw [nI_clamp (by omega)]
    refine lv_if_eq (tgt := 24) hx hb d_M_isThere_17 (by decide) (fun c_17 => ?_) (fun c_17 => ?_)
    · refine lv_iconst (v := 0) hx hb d_M_isThere_24 (by decide) ?_
      exact W.zret hx hb hr rfl (fun t ht _ => ⟨congrArg (fun z => Outcome.returned (some (Value.int z))) (b01_f (fun h => h c_17)).symm, ht⟩) (fun _ h => by cases h) d_M_isThere_25 (hlocks := C0.2.2.2.2.2.2)
    · refine lv_iconst (v := 1) hx hb d_M_isThere_20 (by decide) ?_
      refine lv_goto (tgt := 25) hx hb d_M_isThere_21 (by decide) ?_
      exact W.zret hx hb hr rfl (fun t ht _ => ⟨congrArg (fun z => Outcome.returned (some (Value.int z))) (b01_t c_17).symm, ht⟩) (fun _ h => by cases h) d_M_isThere_25 (hlocks := C0.2.2.2.2.2.2)

set_option maxHeartbeats 4000000 in
set_option maxRecDepth 100000 in
theorem k_M_isThere0 (l : Launch) (G : Gl) (w : World) {y aT aX aY aU aV aR sz : Nat} {tc : Int32} {th lx ly ux uy rf : Nat → Int32} (hM : MAt G w y aT aX aY aU aV aR tc th lx ly ux uy sz rf) (n : Int32) (hn9 : ¬ okN n) :
    PuM l y_M_isThere ws_M_isThere 1 G w [.ref y, .int n] (some (.int 0)) := by
  refine met_ent (by decide +kernel) (Nat.le_of_ble_eq_true rfl) (fun p e s m below meth c ls C0 hr hin hH hl => ?_)
  have hx := C0.1
  have hb := C0.2.1
  have hS : va_S (gA G) s.heap s.heap [] := va_S.rf
  have hA : ∀ q : Nat, s.heap.size ≤ q → gA G q := fun q h => Nat.le_trans C0.ev.2.2.2.2.2.2.2.2.2.2.2.2 h
  have hl : lv_has ls 2 [(0, .ref y), (1, .int n)] := hl
  obtain ⟨hY, hT, hX, hYy, hU9, hV, hR, hDi⟩ := id hM
  refine lv_iload_n hx hb d_M_isThere_0 rfl (lv_at hl 1 rfl) ?_
  refine lv_iconst (v := 0) hx hb d_M_isThere_1 (by decide) ?_
  refine lv_sipush (v := 4095) hx hb d_M_isThere_2 (by decide) ?_
  refine pu_v (runS C0 (k_M_within l G w n 0 4095) (cs_M_35 C0 ⟨Nat.le_of_ble_eq_true rfl, Nat.le_of_ble_eq_true rfl⟩) hH hS rfl hl.1 rfl (lv_room (Nat.le_of_ble_eq_true rfl)) d_M_isThere_5 ⟨by show _ ≤ 0; omega, by show _ ≤ 0; omega⟩) ?_
  refine lv_if_eq (tgt := 24) hx hb d_M_isThere_8 (by decide) (fun c_8 => ?_) (fun c_8 => ?_)
  · refine lv_iconst (v := 0) hx hb d_M_isThere_24 (by decide) ?_
    exact W.zret hx hb hr rfl (fun t ht _ => ⟨rfl, ht⟩) (fun _ h => by cases h) d_M_isThere_25 (hlocks := C0.2.2.2.2.2.2)
  · exact absurd (b01_f (fun h => hn9 (by unfold okN; have a := h.1; have b := h.2; revert a b; simp only [Int32.le_iff_toInt_le, Int32.lt_iff_toInt_lt, tI4096, tI0, show (4095 : Int32).toInt = 4095 from rfl]; omega))) c_8
end
