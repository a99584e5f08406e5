/-! A world as a function of the address: the kit's lists behind it, by membership. -/
def Hd (D : va_G) (cl : List vw_C) (A : Nat → Prop) (w : Nat → Option va_E) (H : Heap) : Prop :=
  ∃ ws : va_W, va_P D cl ws H ∧ va_D A ws ∧ ∀ (a : Nat) (e : va_E), w a = some e ↔ (a, e) ∈ ws
theorem hd_ix {w : Nat → Option va_E} {ws : va_W} (h : ∀ (a : Nat) (e : va_E), w a = some e ↔ (a, e) ∈ ws) {a : Nat} {e : va_E} (he : w a = some e) : ∃ k : Nat, ws[k]? = some (a, e) :=
  List.getElem?_of_mem ((h a e).mp he)
theorem hd_set {A : Nat → Prop} {w : Nat → Option va_E} {ws : va_W} (h : ∀ (a : Nat) (e : va_E), w a = some e ↔ (a, e) ∈ ws) (hD : va_D A ws) {a k : Nat} {e e' : va_E} (hk : ws[k]? = some (a, e)) :
    ∀ (b : Nat) (f : va_E), va_up w a (some e') b = some f ↔ (b, f) ∈ ws.set k (a, e') := by
  have hkl : k < ws.length := (List.getElem?_eq_some_iff.mp hk).1
  intro b f
  constructor
  · intro hb
    by_cases hba : b = a
    · subst hba
      rw [va_up_self] at hb
      cases hb
      exact List.mem_iff_getElem?.mpr ⟨k, by simp [List.getElem?_set, hkl]⟩
    · rw [va_up_ne _ _ hba] at hb
      obtain ⟨j, hj⟩ := hd_ix h hb
      have hjk : k ≠ j := fun q => by
        subst q
        rw [hk] at hj
        cases hj
        exact hba rfl
      exact List.mem_iff_getElem?.mpr ⟨j, by rw [List.getElem?_set_ne hjk]; exact hj⟩
  · intro hm
    obtain ⟨j, hj⟩ := List.getElem?_of_mem hm
    by_cases hjk : k = j
    · subst hjk
      rw [List.getElem?_set_self hkl] at hj
      cases hj
      exact va_up_self _ _ _
    · rw [List.getElem?_set_ne hjk] at hj
      have hba : b ≠ a := fun q => hjk (hD.1 k j _ _ hk hj q.symm)
      rw [va_up_ne _ _ hba]
      exact (h b f).mpr (List.mem_of_getElem? hj)
theorem hd_push {A : Nat → Prop} {w : Nat → Option va_E} {ws : va_W} (h : ∀ (a : Nat) (e : va_E), w a = some e ↔ (a, e) ∈ ws) {q : Nat} {e : va_E} (hD : va_D A (ws ++ [(q, e)])) :
    w q = none ∧ ∀ (b : Nat) (f : va_E), va_up w q (some e) b = some f ↔ (b, f) ∈ ws ++ [(q, e)] := by
  have hl : (ws ++ [(q, e)])[ws.length]? = some (q, e) := by simp
  have hne : ∀ (b : Nat) (f : va_E), (b, f) ∈ ws → b ≠ q := by
    intro b f hm hb
    obtain ⟨j, hj⟩ := List.getElem?_of_mem hm
    have hjl : j < ws.length := (List.getElem?_eq_some_iff.mp hj).1
    have h2 : (ws ++ [(q, e)])[j]? = some (b, f) := by rw [List.getElem?_append_left hjl]; exact hj
    have := hD.1 j ws.length _ _ h2 hl hb
    omega
  refine ⟨?_, fun b f => ?_⟩
  · cases hq : w q with
    | none => rfl
    | some f => exact absurd rfl (hne q f ((h q f).mp hq))
  · constructor
    · intro hb
      by_cases hbq : b = q
      · subst hbq
        rw [va_up_self] at hb
        cases hb
        exact List.mem_append_right _ (List.mem_singleton.mpr rfl)
      · rw [va_up_ne _ _ hbq] at hb
        exact List.mem_append_left _ ((h b f).mp hb)
    · intro hm
      rcases List.mem_append.mp hm with h1 | h1
      · rw [va_up_ne _ _ (hne b f h1)]
        exact (h b f).mpr h1
      · cases List.mem_singleton.mp h1
        exact va_up_self _ _ _
theorem Hd.lt {D : va_G} {cl : List vw_C} {A : Nat → Prop} {w : Nat → Option va_E} {H : Heap} (h : Hd D cl A w H) {a : Nat} {e : va_E} (he : w a = some e) : a < H.size := by
  obtain ⟨ws, hP, hD, hw⟩ := h
  obtain ⟨k, hk⟩ := hd_ix hw he
  exact (hP k _ hk).lt
theorem Hd.at {D : va_G} {cl : List vw_C} {A : Nat → Prop} {w : Nat → Option va_E} {H : Heap} (h : Hd D cl A w H) {a : Nat} {e : va_E} (he : w a = some e) : va_at D cl (a, e) H := by
  obtain ⟨ws, hP, hD, hw⟩ := h
  obtain ⟨k, hk⟩ := hd_ix hw he
  exact hP k _ hk
theorem Hd.inA {D : va_G} {cl : List vw_C} {A : Nat → Prop} {w : Nat → Option va_E} {H : Heap} (h : Hd D cl A w H) {a : Nat} {e : va_E} (he : w a = some e) : A a := by
  obtain ⟨ws, hP, hD, hw⟩ := h
  obtain ⟨k, hk⟩ := hd_ix hw he
  exact hD.2 k _ hk
/-- another heap that has the same cells where the world looks -/
theorem Hd.kept {D : va_G} {cl : List vw_C} {A : Nat → Prop} {w : Nat → Option va_E} {H H1 : Heap} (h : Hd D cl A w H) (hq : ∀ q : Nat, q < H.size → H1[q]? = H[q]?) : Hd D cl A w H1 := by
  obtain ⟨ws, hP, hD, hw⟩ := h
  exact ⟨ws, hP.kept (fun k q hk => hq q.1 (hP k q hk).lt), hD, hw⟩
theorem Hd.nil {D : va_G} {cl : List vw_C} {A : Nat → Prop} {H : Heap} : Hd D cl A (fun _ => none) H :=
  ⟨[], fun k q h => by simp at h, ⟨fun i j p q h => by simp at h, fun k q h => by simp at h⟩, fun a e => by simp⟩
section HDR
variable {p : Program} {l : Launch} {e : Env} {R : Room} {s : State} {m : MethodId} {args : Array Value} {below : List Frame} {meth : Method} {c : Code} {H : Heap} {locs : List Loc} {cells slots : Nat} {Q : State → Prop}
variable {cc : ByteArray} {pc : Nat} {ls : Array Slot} {rest : List Value} {D : va_G} {cl : List vw_C} {A : Nat → Prop} {a : Nat} {tys : List (ClassId × FieldType)} {w : Nat → Option va_E} {H0 : Heap}
theorem hd_recv (hK : va_K D cl tys s) (hH : Hd D cl A w H) {ci : Nat} {q : vw_C} {fs : List Value} (hc : cl[ci]? = some q) (he : w a = some (.inr (ci, fs))) : ∃ cell : Cell, H[a]? = some cell ∧ cell.vm.isStatics = false ∧ s.vm.findClass q.1 = some cell.cls := by
  obtain ⟨ws, hP, hD, hw⟩ := hH
  obtain ⟨k, hk⟩ := hd_ix hw he
  exact va_recv hK hP hc hk
theorem hd_get (hexec : p.tables.exec = Jvm.exec) (hb : c.code = cc) {own ref C : String} {T : u_T} {N ci index : Nat} {Ts : List Cond} (hts : ∀ w ∈ Ts, w.before args s = true) (hin : ∀ w ∈ u_ws C T N, w ∈ Ts) (hown : s.vm.findClass own = some m.cls) (hK : va_K D cl tys s) (hH : Hd D cl A w H) {fs : List Value} (he : w a = some (.inr (ci, fs))) (hc : cl[ci]? = some (C, T, N)) (k : Nat) (hk : k < N) (hlink : (Cond.fieldLink own index ref (T k).2.1 (T k).2.2.1).before args s = true) (hsame : ∀ x, s.fieldFound? (T k).1 (T k).2.1 (T k).2.2.1 = some x → s.fieldFound? ref (T k).2.1 (T k).2.2.1 = some x) {v : Value} (hv : fs[k]? = some v) (hdg : decode cc pc = .ok (.getfield index, 3))
    (kk : W p l e R s m args below meth c H locs cells slots Q (F0 m (pc + 3) ls (v :: rest))) : W p l e R s m args below meth c H locs cells slots Q (F0 m pc ls (.ref a :: rest)) := by
  obtain ⟨ws, hP, hD, hw⟩ := hH
  obtain ⟨k0, hk0⟩ := hd_ix hw he
  exact va_get hexec hb hts hin hown hK hP k0 hk0 hc k hk hlink hsame hv hdg kk
theorem hd_getN (hexec : p.tables.exec = Jvm.exec) (hb : c.code = cc) {own ref C host : String} {T : u_T} {N ci index : Nat} {Ts : List Cond} (hts : ∀ w ∈ Ts, w.before args s = true) (hin : ∀ w ∈ u_ws C T N, w ∈ Ts) (hown : s.vm.findClass own = some m.cls) (hK : va_K D cl tys s) (hH : Hd D cl A w H) {fs : List Value} (he : w a = some (.inr (ci, fs))) (hc : cl[ci]? = some (C, T, N)) (k : Nat) (hk : k < N) (hlink : (Cond.fieldLinkNest own index ref (T k).2.1 (T k).2.2.1 host).before args s = true) (hsame : ∀ x, s.fieldFound? (T k).1 (T k).2.1 (T k).2.2.1 = some x → s.fieldFound? ref (T k).2.1 (T k).2.2.1 = some x) {v : Value} (hv : fs[k]? = some v) (hdg : decode cc pc = .ok (.getfield index, 3))
    (kk : W p l e R s m args below meth c H locs cells slots Q (F0 m (pc + 3) ls (v :: rest))) : W p l e R s m args below meth c H locs cells slots Q (F0 m pc ls (.ref a :: rest)) := by
  obtain ⟨ws, hP, hD, hw⟩ := hH
  obtain ⟨k0, hk0⟩ := hd_ix hw he
  exact va_getN hexec hb hts hin hown hK hP k0 hk0 hc k hk hlink hsame hv hdg kk
theorem hd_put (hexec : p.tables.exec = Jvm.exec) (hb : c.code = cc) {own ref C : String} {T : u_T} {N ci index : Nat} {Ts : List Cond} (hts : ∀ w ∈ Ts, w.before args s = true) (hin : ∀ w ∈ u_ws C T N, w ∈ Ts) (ty0 : Nat → FieldType) (hty : ∀ k, k < N → parseFieldDescriptor (T k).2.2.1 = some (ty0 k)) (hnm : ∀ a, a < N → ∀ b, b < N → a ≠ b → (T a).2.1 ≠ (T b).2.1) (hown : s.vm.findClass own = some m.cls) (hK : va_K D cl tys s) (hH : Hd D cl A w H) (hS0 : va_S A H0 H locs) {fs : List Value} (he : w a = some (.inr (ci, fs))) (hc : cl[ci]? = some (C, T, N)) (k : Nat) (hk : k < N) (hlink : (Cond.fieldLink own index ref (T k).2.1 (T k).2.2.1).before args s = true) (hsame : ∀ x, s.fieldFound? (T k).1 (T k).2.1 (T k).2.2.1 = some x → s.fieldFound? ref (T k).2.1 (T k).2.2.1 = some x) (hfin : (T k).2.2.2 = false) {ty : FieldType} {v : Value} (hd : parseFieldDescriptor (T k).2.2.1 = some ty) (hn : narrow ty v = v) (hfit : fits ty v = true) (hl : k < fs.length)
    (hdg : decode cc pc = .ok (.putfield index, 3)) (kk : ∀ (H1 : Heap) (locs1 : List Loc), Hd D cl A (va_up w a (some (.inr (ci, fs.set k v)))) H1 → va_S A H0 H1 locs1 → W p l e R s m args below meth c H1 locs1 cells slots Q (F0 m (pc + 3) ls rest)) : W p l e R s m args below meth c H locs cells slots Q (F0 m pc ls (v :: .ref a :: rest)) := by
  obtain ⟨ws, hP, hD, hw⟩ := hH
  obtain ⟨k0, hk0⟩ := hd_ix hw he
  exact va_put hexec hb hts hin ty0 hty hnm hown hK hP hD hS0 k0 hk0 hc k hk hlink hsame hfin hd hn hfit hl hdg (fun H1 locs1 hP1 hD1 hS1 => kk H1 locs1 ⟨_, hP1, hD1, hd_set hw hD hk0⟩ hS1)
theorem hd_putF (hexec : p.tables.exec = Jvm.exec) (hb : c.code = cc) {own ref C : String} {T : u_T} {N ci index : Nat} {Ts : List Cond} (hts : ∀ w ∈ Ts, w.before args s = true) (hin : ∀ w ∈ u_ws C T N, w ∈ Ts) (ty0 : Nat → FieldType) (hty : ∀ k, k < N → parseFieldDescriptor (T k).2.2.1 = some (ty0 k)) (hnm : ∀ a, a < N → ∀ b, b < N → a ≠ b → (T a).2.1 ≠ (T b).2.1) (hown : s.vm.findClass own = some m.cls) (hK : va_K D cl tys s) (hH : Hd D cl A w H) (hS0 : va_S A H0 H locs) {fs : List Value} (he : w a = some (.inr (ci, fs))) (hc : cl[ci]? = some (C, T, N)) (k : Nat) (hk : k < N) (hlink : (Cond.fieldLink own index ref (T k).2.1 (T k).2.2.1).before args s = true) (hsame : ∀ x, s.fieldFound? (T k).1 (T k).2.1 (T k).2.2.1 = some x → s.fieldFound? ref (T k).2.1 (T k).2.2.1 = some x) (hfin : (T k).2.2.2 = true) (hin2 : meth.name = "<init>") (hdecl : (T k).1 = own) {ty : FieldType} {v : Value} (hd : parseFieldDescriptor (T k).2.2.1 = some ty) (hn : narrow ty v = v) (hfit : fits ty v = true) (hl : k < fs.length)
    (hdg : decode cc pc = .ok (.putfield index, 3)) (kk : ∀ (H1 : Heap) (locs1 : List Loc), Hd D cl A (va_up w a (some (.inr (ci, fs.set k v)))) H1 → va_S A H0 H1 locs1 → W p l e R s m args below meth c H1 locs1 cells slots Q (F0 m (pc + 3) ls rest)) : W p l e R s m args below meth c H locs cells slots Q (F0 m pc ls (v :: .ref a :: rest)) := by
  obtain ⟨ws, hP, hD, hw⟩ := hH
  obtain ⟨k0, hk0⟩ := hd_ix hw he
  exact va_putF hexec hb hts hin ty0 hty hnm hown hK hP hD hS0 k0 hk0 hc k hk hlink hsame hfin hin2 hdecl hd hn hfit hl hdg (fun H1 locs1 hP1 hD1 hS1 => kk H1 locs1 ⟨_, hP1, hD1, hd_set hw hD hk0⟩ hS1)
theorem hd_new (hexec : p.tables.exec = Jvm.exec) (hb : c.code = cc) {own C : String} {T : u_T} {N ci index : Nat} {Ts : List Cond} (hts : ∀ w ∈ Ts, w.before args s = true) (hin : ∀ w ∈ u_ws C T N, w ∈ Ts) (ty : Nat → FieldType) (hty : ∀ k, k < N → parseFieldDescriptor (T k).2.2.1 = some (ty k)) (hown : s.vm.findClass own = some m.cls) (hcl : (Cond.classLink own index C).before args s = true) (hinst : (Cond.instantiable C N).before args s = true) (hini : (Cond.initialized C).before args s = true)
    (hK : va_K D cl tys s) (hH : Hd D cl A w H) (hS : va_S A H0 H locs) (hA : ∀ q, H0.size ≤ q → A q) (hc : cl[ci]? = some (C, T, N)) {fs : List Value} (hfs : ∀ j, j < N → defaultValue (ty j) = vp_V fs j) (hcells : cells + 1 ≤ R.cells) (hslots : slots + N ≤ R.slots) (hdg : decode cc pc = .ok (.new index, 3))
    (kk : ∀ (q : Nat) (H1 : Heap), w q = none → Hd D cl A (va_up w q (some (.inr (ci, fs)))) H1 → va_S A H0 H1 locs →
      W p l e R s m args below meth c H1 locs (cells + 1) (slots + N) Q (F0 m (pc + 3) ls (.ref q :: rest))) : W p l e R s m args below meth c H locs cells slots Q (F0 m pc ls rest) := by
  obtain ⟨ws, hP, hD, hw⟩ := hH
  exact va_new hexec hb hts hin ty hty hown hcl hinst hini hK hP hD hS hA hc hfs hcells hslots hdg (fun q H1 hP1 hD1 hS1 => kk q H1 (hd_push hw hD1).1 ⟨_, hP1, hD1, (hd_push hw hD1).2⟩ hS1)
/-- newarray of a type whose array class is in the list -/
theorem hd_newa (hexec : p.tables.exec = Jvm.exec) (hb : c.code = cc) {atype : ArrayType} (harr : (Cond.arrayClass (newarray.typeOf atype)).before args s = true) {ty : FieldType} (hty : newarray.typeOf atype = ty) (hprim : ∀ C, ty ≠ .object C) (hK : va_K D cl tys s) (t0 : Nat) {cA : ClassId} (ht : tys[t0]? = some (cA, ty)) (hH : Hd D cl A w H) (hS : va_S A H0 H locs) (hA : ∀ q, H0.size ≤ q → A q)
    {n : Int32} {N' : Nat} {a0 : vp_A} (ha : ∀ cA : ClassId, vp_cell cA a0 = arrV cA N' (fun _ => defaultValue ty)) (hn : ¬ n < 0) (hN : n.toNatClampNeg = N') (hbytes : N' * componentBytes ty ≤ 536870912) (hcells : cells + 1 ≤ R.cells) (hslots : slots + N' ≤ R.slots) (hdg : decode cc pc = .ok (.newarray atype, 2))
    (kk : ∀ (q : Nat) (H1 : Heap), w q = none → Hd D cl A (va_up w q (some (.inl (cA, a0)))) H1 → va_S A H0 H1 locs →
      W p l e R s m args below meth c H1 locs (cells + 1) (slots + N') Q (F0 m (pc + 2) ls (.ref q :: rest))) : W p l e R s m args below meth c H locs cells slots Q (F0 m pc ls (.int n :: rest)) := by
  obtain ⟨ws, hP, hD, hw⟩ := hH
  refine va_newa hexec hb harr hty hK hP hD hS hA ha hn hN hbytes hcells hslots hdg (fun q cB H1 hK1 hP1 hD1 hS1 => ?_)
  have h1 := (hK1.2 tys.length (cB, ty) (by simp)).2
  have h2 := (hK.2 t0 _ ht).2
  have e1 : cB = cA := by
    cases ty with
    | object C => exact absurd rfl (hprim C)
    | _ => exact Option.some.inj (h1.symm.trans h2)
  subst e1
  exact kk q H1 (hd_push hw hD1).1 ⟨_, hP1, hD1, (hd_push hw hD1).2⟩ hS1
theorem hd_newq (hexec : p.tables.exec = Jvm.exec) (hb : c.code = cc) {own C : String} {index : Nat} (hown : s.vm.findClass own = some m.cls) (hclink : (Cond.classLink own index C).before args s = true) (hover : va_AO C s) (hK : va_K D cl tys s) (t0 : Nat) {cA : ClassId} (ht : tys[t0]? = some (cA, .object C)) (hH : Hd D cl A w H) (hS : va_S A H0 H locs) (hA : ∀ q, H0.size ≤ q → A q)
    {n : Int32} {N' : Nat} (hn : ¬ n < 0) (hN : n.toNatClampNeg = N') (hbytes : N' * 4 ≤ 536870912) (hcells : cells + 1 ≤ R.cells) (hslots : slots + N' ≤ R.slots) (hdg : decode cc pc = .ok (.anewarray index, 3))
    (kk : ∀ (q : Nat) (H1 : Heap), w q = none → Hd D cl A (va_up w q (some (.inl (cA, N', .inr (.inr (.inr (.inr (fun _ => none)))))))) H1 → va_S A H0 H1 locs →
      W p l e R s m args below meth c H1 locs (cells + 1) (slots + N') Q (F0 m (pc + 3) ls (.ref q :: rest))) : W p l e R s m args below meth c H locs cells slots Q (F0 m pc ls (.int n :: rest)) := by
  obtain ⟨ws, hP, hD, hw⟩ := hH
  refine va_newq hexec hb hown hclink hover hK hP hD hS hA hn hN hbytes hcells hslots hdg (fun q cB H1 hK1 hP1 hD1 hS1 => ?_)
  obtain ⟨_, _, _, _, _, h1⟩ := (hK1.2 tys.length (cB, .object C) (by simp)).2
  obtain ⟨_, _, _, _, _, h2⟩ := (hK.2 t0 _ ht).2
  have e1 : cB = cA := Option.some.inj (h1.symm.trans h2)
  subst e1
  exact kk q H1 (hd_push hw hD1).1 ⟨_, hP1, hD1, (hd_push hw hD1).2⟩ hS1
theorem hd_alen (hexec : p.tables.exec = Jvm.exec) (hb : c.code = cc) (hK : va_K D cl tys s) (hH : Hd D cl A w H) (t0 : Nat) {cA : ClassId} {x : vp_A} (ha : w a = some (.inl (cA, x))) {ty : FieldType} (ht : tys[t0]? = some (cA, ty)) {v : Int32} (hv : Int32.ofNat x.1 = v) (hdg : decode cc pc = .ok (.arraylength, 1))
    (kk : W p l e R s m args below meth c H locs cells slots Q (F0 m (pc + 1) ls (.int v :: rest))) : W p l e R s m args below meth c H locs cells slots Q (F0 m pc ls (.ref a :: rest)) := by
  obtain ⟨ws, hP, hD, hw⟩ := hH
  obtain ⟨k0, hk0⟩ := hd_ix hw ha
  exact va_alen hexec hb hK hP k0 t0 hk0 ht hv hdg kk
theorem hd_iald (hexec : p.tables.exec = Jvm.exec) (hb : c.code = cc) (hK : va_K D cl tys s) (hH : Hd D cl A w H) (t0 : Nat) {cA : ClassId} {n : Nat} {f : Nat → Int32} (ha : w a = some (.inl (cA, n, .inl f))) (ht : tys[t0]? = some (cA, .int)) {i : Int32} (hin : vp_in i n) (hdg : decode cc pc = .ok (.iaload, 1))
    (kk : W p l e R s m args below meth c H locs cells slots Q (F0 m (pc + 1) ls (.int (f i.toNatClampNeg) :: rest))) : W p l e R s m args below meth c H locs cells slots Q (F0 m pc ls (.int i :: .ref a :: rest)) := by
  obtain ⟨ws, hP, hD, hw⟩ := hH
  obtain ⟨k0, hk0⟩ := hd_ix hw ha
  exact va_iald hexec hb hK hP k0 t0 hk0 ht hin hdg kk
theorem hd_lald (hexec : p.tables.exec = Jvm.exec) (hb : c.code = cc) (hK : va_K D cl tys s) (hH : Hd D cl A w H) (t0 : Nat) {cA : ClassId} {n : Nat} {f : Nat → Int64} (ha : w a = some (.inl (cA, n, .inr (.inl f)))) (ht : tys[t0]? = some (cA, .long)) {i : Int32} (hin : vp_in i n) (hdg : decode cc pc = .ok (.laload, 1))
    (kk : W p l e R s m args below meth c H locs cells slots Q (F0 m (pc + 1) ls (.long (f i.toNatClampNeg) :: rest))) : W p l e R s m args below meth c H locs cells slots Q (F0 m pc ls (.int i :: .ref a :: rest)) := by
  obtain ⟨ws, hP, hD, hw⟩ := hH
  obtain ⟨k0, hk0⟩ := hd_ix hw ha
  exact va_lald hexec hb hK hP k0 t0 hk0 ht hin hdg kk
theorem hd_aldq (hexec : p.tables.exec = Jvm.exec) (hb : c.code = cc) (hK : va_K D cl tys s) (hH : Hd D cl A w H) (t0 : Nat) {cA : ClassId} {C : String} {n : Nat} {f : Nat → Option Nat} (ha : w a = some (.inl (cA, n, .inr (.inr (.inr (.inr f)))))) (ht : tys[t0]? = some (cA, .object C)) {i : Int32} (hin : vp_in i n) (hdg : decode cc pc = .ok (.aaload, 1))
    (kk : W p l e R s m args below meth c H locs cells slots Q (F0 m (pc + 1) ls (va_rf (f i.toNatClampNeg) :: rest))) : W p l e R s m args below meth c H locs cells slots Q (F0 m pc ls (.int i :: .ref a :: rest)) := by
  obtain ⟨ws, hP, hD, hw⟩ := hH
  obtain ⟨k0, hk0⟩ := hd_ix hw ha
  exact va_aldq hexec hb hK hP k0 t0 hk0 ht hin hdg kk
theorem hd_iast (hexec : p.tables.exec = Jvm.exec) (hb : c.code = cc) (hK : va_K D cl tys s) (hH : Hd D cl A w H) (hS : va_S A H0 H locs) (t0 : Nat) {cA : ClassId} {n : Nat} {f : Nat → Int32} (ha : w a = some (.inl (cA, n, .inl f))) (ht : tys[t0]? = some (cA, .int)) {i : Int32} {x : Int32} (hin : vp_in i n) (hdg : decode cc pc = .ok (.iastore, 1))
    (kk : ∀ (H1 : Heap) (locs1 : List Loc), Hd D cl A (va_up w a (some (.inl (cA, n, .inl (upd f i.toNatClampNeg x))))) H1 → va_S A H0 H1 locs1 → W p l e R s m args below meth c H1 locs1 cells slots Q (F0 m (pc + 1) ls rest)) : W p l e R s m args below meth c H locs cells slots Q (F0 m pc ls (.int x :: .int i :: .ref a :: rest)) := by
  obtain ⟨ws, hP, hD, hw⟩ := hH
  obtain ⟨k0, hk0⟩ := hd_ix hw ha
  exact va_iast hexec hb hK hP hD hS k0 t0 hk0 ht hin hdg (fun H1 locs1 hP1 hD1 hS1 => kk H1 locs1 ⟨_, hP1, hD1, hd_set hw hD hk0⟩ hS1)
theorem hd_last (hexec : p.tables.exec = Jvm.exec) (hb : c.code = cc) (hK : va_K D cl tys s) (hH : Hd D cl A w H) (hS : va_S A H0 H locs) (t0 : Nat) {cA : ClassId} {n : Nat} {f : Nat → Int64} (ha : w a = some (.inl (cA, n, .inr (.inl f)))) (ht : tys[t0]? = some (cA, .long)) {i : Int32} {x : Int64} (hin : vp_in i n) (hdg : decode cc pc = .ok (.lastore, 1))
    (kk : ∀ (H1 : Heap) (locs1 : List Loc), Hd D cl A (va_up w a (some (.inl (cA, n, .inr (.inl (vp_updL f i.toNatClampNeg x)))))) H1 → va_S A H0 H1 locs1 → W p l e R s m args below meth c H1 locs1 cells slots Q (F0 m (pc + 1) ls rest)) : W p l e R s m args below meth c H locs cells slots Q (F0 m pc ls (.long x :: .int i :: .ref a :: rest)) := by
  obtain ⟨ws, hP, hD, hw⟩ := hH
  obtain ⟨k0, hk0⟩ := hd_ix hw ha
  exact va_last hexec hb hK hP hD hS k0 t0 hk0 ht hin hdg (fun H1 locs1 hP1 hD1 hS1 => kk H1 locs1 ⟨_, hP1, hD1, hd_set hw hD hk0⟩ hS1)
theorem hd_astqO (hexec : p.tables.exec = Jvm.exec) (hb : c.code = cc) (hK : va_K D cl tys s) (hH : Hd D cl A w H) (hS : va_S A H0 H locs) (t0 ci : Nat) {E : String} {cA : ClassId} {r : vw_C} {n v : Nat} {vs : List Value} {f : Nat → Option Nat} (ha : w a = some (.inl (cA, n, .inr (.inr (.inr (.inr f)))))) (ht : tys[t0]? = some (cA, .object E)) (hca : va_Nw (.castable r.1 E) s) (hv : w v = some (.inr (ci, vs))) (hc : cl[ci]? = some r) {i : Int32} (hin : vp_in i n) (hdg : decode cc pc = .ok (.aastore, 1))
    (kk : ∀ (H1 : Heap) (locs1 : List Loc), Hd D cl A (va_up w a (some (.inl (cA, n, .inr (.inr (.inr (.inr (va_up f i.toNatClampNeg (some v))))))))) H1 → va_S A H0 H1 locs1 → W p l e R s m args below meth c H1 locs1 cells slots Q (F0 m (pc + 1) ls rest)) : W p l e R s m args below meth c H locs cells slots Q (F0 m pc ls (.ref v :: .int i :: .ref a :: rest)) := by
  obtain ⟨ws, hP, hD, hw⟩ := hH
  obtain ⟨k0, hk0⟩ := hd_ix hw ha
  obtain ⟨k1, hk1⟩ := hd_ix hw hv
  exact va_astqO hexec hb hK hP hD hS k0 t0 k1 ci hk0 ht hca hk1 hc hin hdg (fun H1 locs1 hP1 hD1 hS1 => kk H1 locs1 ⟨_, hP1, hD1, hd_set hw hD hk0⟩ hS1)
theorem hd_astqN (hexec : p.tables.exec = Jvm.exec) (hb : c.code = cc) (hK : va_K D cl tys s) (hH : Hd D cl A w H) (hS : va_S A H0 H locs) (t0 : Nat) {cA : ClassId} {C : String} {n : Nat} {f : Nat → Option Nat} (ha : w a = some (.inl (cA, n, .inr (.inr (.inr (.inr f)))))) (ht : tys[t0]? = some (cA, .object C)) {i : Int32} (hin : vp_in i n) (hdg : decode cc pc = .ok (.aastore, 1))
    (kk : ∀ (H1 : Heap) (locs1 : List Loc), Hd D cl A (va_up w a (some (.inl (cA, n, .inr (.inr (.inr (.inr (va_up f i.toNatClampNeg none)))))))) H1 → va_S A H0 H1 locs1 → W p l e R s m args below meth c H1 locs1 cells slots Q (F0 m (pc + 1) ls rest)) : W p l e R s m args below meth c H locs cells slots Q (F0 m pc ls (.null :: .int i :: .ref a :: rest)) := by
  obtain ⟨ws, hP, hD, hw⟩ := hH
  obtain ⟨k0, hk0⟩ := hd_ix hw ha
  exact va_astqN hexec hb hK hP hD hS k0 t0 hk0 ht hin hdg (fun H1 locs1 hP1 hD1 hS1 => kk H1 locs1 ⟨_, hP1, hD1, hd_set hw hD hk0⟩ hS1)
theorem hd_copyi (hexec : p.tables.exec = Jvm.exec) (hb : c.code = cc) (hml : c.maxLocals = ls.size) {own : String} {index : Nat} (hown : s.vm.findClass own = some m.cls) (hlink : (Cond.methodLink own index arraycopyName).before args s = true) (hnat : (Cond.native arraycopyName).before args s = true) (hstat : (Cond.static arraycopyName).before args s = true) (hini : (Cond.initialized "java/lang/System").before args s = true)
    (hK : va_K D cl tys s) (hH : Hd D cl A w H) (hS : va_S A H0 H locs) (t0 : Nat) {a0 : Nat} {cA : ClassId} {n0 n1 : Nat} {f g : Nat → Int32} (ha0 : w a0 = some (.inl (cA, n0, .inl f))) (ha1 : w a = some (.inl (cA, n1, .inl g))) (ht0 : tys[t0]? = some (cA, .int))
    {sp dp n : Int32} (h1 : ¬ sp < 0) (h2 : ¬ dp < 0) (h3 : ¬ n < 0) (h4 : sp.toNatClampNeg + n.toNatClampNeg ≤ n0) (h5 : dp.toNatClampNeg + n.toNatClampNeg ≤ n1)
    (hframes : 1 ≤ R.frames) (hlocals : (rest.map fun v => v.category).sum + (nativeFrameWords "java/lang/System" "arraycopy" 5 + 11) ≤ R.locals) (hdg : decode cc pc = .ok (.invokestatic index, 3))
    (kk : ∀ (H1 : Heap) (locs1 : List Loc), Hd D cl A (va_up w a (some (.inl (cA, n1, .inl (va_cpy f g sp.toNatClampNeg dp.toNatClampNeg n.toNatClampNeg))))) H1 → va_S A H0 H1 locs1 → W p l e R s m args below meth c H1 locs1 cells slots Q (F0 m (pc + 3) ls rest)) : W p l e R s m args below meth c H locs cells slots Q (F0 m pc ls (.int n :: .int dp :: .ref a :: .int sp :: .ref a0 :: rest)) := by
  obtain ⟨ws, hP, hD, hw⟩ := hH
  obtain ⟨k0, hk0⟩ := hd_ix hw ha0
  obtain ⟨k1, hk1⟩ := hd_ix hw ha1
  exact va_copyi hexec hb hml hown hlink hnat hstat hini hK hP hD hS k0 k1 t0 t0 hk0 hk1 ht0 ht0 rfl h1 h2 h3 h4 h5 (fun _ _ => rfl) hframes hlocals hdg (fun H1 locs1 hP1 hD1 hS1 => kk H1 locs1 ⟨_, hP1, hD1, hd_set hw hD hk1⟩ hS1)
theorem hd_copyl (hexec : p.tables.exec = Jvm.exec) (hb : c.code = cc) (hml : c.maxLocals = ls.size) {own : String} {index : Nat} (hown : s.vm.findClass own = some m.cls) (hlink : (Cond.methodLink own index arraycopyName).before args s = true) (hnat : (Cond.native arraycopyName).before args s = true) (hstat : (Cond.static arraycopyName).before args s = true) (hini : (Cond.initialized "java/lang/System").before args s = true)
    (hK : va_K D cl tys s) (hH : Hd D cl A w H) (hS : va_S A H0 H locs) (t0 : Nat) {a0 : Nat} {cA : ClassId} {n0 n1 : Nat} {f g : Nat → Int64} (ha0 : w a0 = some (.inl (cA, n0, .inr (.inl f)))) (ha1 : w a = some (.inl (cA, n1, .inr (.inl g)))) (ht0 : tys[t0]? = some (cA, .long))
    {sp dp n : Int32} (h1 : ¬ sp < 0) (h2 : ¬ dp < 0) (h3 : ¬ n < 0) (h4 : sp.toNatClampNeg + n.toNatClampNeg ≤ n0) (h5 : dp.toNatClampNeg + n.toNatClampNeg ≤ n1)
    (hframes : 1 ≤ R.frames) (hlocals : (rest.map fun v => v.category).sum + (nativeFrameWords "java/lang/System" "arraycopy" 5 + 11) ≤ R.locals) (hdg : decode cc pc = .ok (.invokestatic index, 3))
    (kk : ∀ (H1 : Heap) (locs1 : List Loc), Hd D cl A (va_up w a (some (.inl (cA, n1, .inr (.inl (va_cpy f g sp.toNatClampNeg dp.toNatClampNeg n.toNatClampNeg)))))) H1 → va_S A H0 H1 locs1 → W p l e R s m args below meth c H1 locs1 cells slots Q (F0 m (pc + 3) ls rest)) : W p l e R s m args below meth c H locs cells slots Q (F0 m pc ls (.int n :: .int dp :: .ref a :: .int sp :: .ref a0 :: rest)) := by
  obtain ⟨ws, hP, hD, hw⟩ := hH
  obtain ⟨k0, hk0⟩ := hd_ix hw ha0
  obtain ⟨k1, hk1⟩ := hd_ix hw ha1
  exact va_copyl hexec hb hml hown hlink hnat hstat hini hK hP hD hS k0 k1 t0 t0 hk0 hk1 ht0 ht0 rfl h1 h2 h3 h4 h5 (fun _ _ => rfl) hframes hlocals hdg (fun H1 locs1 hP1 hD1 hS1 => kk H1 locs1 ⟨_, hP1, hD1, hd_set hw hD hk1⟩ hS1)
theorem hd_copyq (hexec : p.tables.exec = Jvm.exec) (hb : c.code = cc) (hml : c.maxLocals = ls.size) {own : String} {index : Nat} (hown : s.vm.findClass own = some m.cls) (hlink : (Cond.methodLink own index arraycopyName).before args s = true) (hnat : (Cond.native arraycopyName).before args s = true) (hstat : (Cond.static arraycopyName).before args s = true) (hini : (Cond.initialized "java/lang/System").before args s = true)
    (hK : va_K D cl tys s) (hH : Hd D cl A w H) (hS : va_S A H0 H locs) (t0 ci : Nat) {a0 : Nat} {cA : ClassId} {n0 n1 : Nat} {f g : Nat → Option Nat} {E : String} {r : vw_C} (ha0 : w a0 = some (.inl (cA, n0, .inr (.inr (.inr (.inr f)))))) (ha1 : w a = some (.inl (cA, n1, .inr (.inr (.inr (.inr g)))))) (ht0 : tys[t0]? = some (cA, .object E)) (hca : va_Nw (.castable r.1 E) s) (hc : cl[ci]? = some r)
    {sp dp n : Int32} (h1 : ¬ sp < 0) (h2 : ¬ dp < 0) (h3 : ¬ n < 0) (h4 : sp.toNatClampNeg + n.toNatClampNeg ≤ n0) (h5 : dp.toNatClampNeg + n.toNatClampNeg ≤ n1) (hel : ∀ i : Nat, i < n.toNatClampNeg → ∀ y : Nat, f (sp.toNatClampNeg + i) = some y → ∃ vs : List Value, w y = some (.inr (ci, vs)))
    (hframes : 1 ≤ R.frames) (hlocals : (rest.map fun v => v.category).sum + (nativeFrameWords "java/lang/System" "arraycopy" 5 + 11) ≤ R.locals) (hdg : decode cc pc = .ok (.invokestatic index, 3))
    (kk : ∀ (H1 : Heap) (locs1 : List Loc), Hd D cl A (va_up w a (some (.inl (cA, n1, .inr (.inr (.inr (.inr (va_cpy f g sp.toNatClampNeg dp.toNatClampNeg n.toNatClampNeg)))))))) H1 → va_S A H0 H1 locs1 → W p l e R s m args below meth c H1 locs1 cells slots Q (F0 m (pc + 3) ls rest)) : W p l e R s m args below meth c H locs cells slots Q (F0 m pc ls (.int n :: .int dp :: .ref a :: .int sp :: .ref a0 :: rest)) := by
  have hel2 : ∀ i : Nat, i < n.toNatClampNeg → ∀ y : Nat, f (sp.toNatClampNeg + i) = some y → ∃ cellV : Cell, H[y]? = some cellV ∧ cellV.vm.isStatics = false ∧ s.vm.findClass r.1 = some cellV.cls := fun i hi y hy => by
    obtain ⟨vs, hvs⟩ := hel i hi y hy
    exact hd_recv hK hH hc hvs
  obtain ⟨ws, hP, hD, hw⟩ := hH
  obtain ⟨k0, hk0⟩ := hd_ix hw ha0
  obtain ⟨k1, hk1⟩ := hd_ix hw ha1
  exact va_copyq (C := r.1) hexec hb hml hown hlink hnat hstat hini hK hP hD hS k0 k1 t0 t0 hk0 hk1 ht0 ht0 h1 h2 h3 h4 h5 hel2 (fun comp c0 g1 g2 => by
    obtain ⟨c1, t1, f1, f2, f3⟩ := Cond.castable_spec (va_Nw.use (A := args) rfl hca)
    cases g2.symm.trans f1
    cases g1.symm.trans f2
    exact f3) hframes hlocals hdg (fun H1 locs1 hP1 hD1 hS1 => kk H1 locs1 ⟨_, hP1, hD1, hd_set hw hD hk1⟩ hS1)
end HDR
