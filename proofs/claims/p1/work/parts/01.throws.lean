/-! THROWS: a contract for a method that ends by throwing a new object of one class and writes nothing old; the row that throws it; a call of such a method, caught or not. -/
/-- at x of t's heap lies a plain object of the class C, as u's tables have it -/
def th_O (C : String) (u t : State) (x : Addr) : Prop := ∃ cell : Cell, t.heap[x]? = some cell ∧ cell.vm = .none ∧ u.vm.findClass C = some cell.cls
def th_E (C : String) (mc ms : Nat) (st : State) (o : Outcome) (t : State) : Prop :=
  ∃ x : Addr, o = .threw x ∧ th_O C st t x ∧ st.WarmedH t.vm ∧ st.sameButNew ({ t with vm := st.vm } : State) [] mc ms
def th_Met (l : Launch) (y : MethodName) (ws : List Cond) (rm : Room) (Pc : Array Value → State → Prop) (C : String) (mc ms : Nat) : Prop :=
  MetFree l y (headSpec ws rm) Pc (fun _ _ _ _ _ => True) (fun _ st o t => th_E C mc ms st o t)
def th_Q (below : List Frame) (C : String) (s : State) (mc ms : Nat) : State → Prop := fun t => ∃ o, t.status = .running ∧ Ended t below o ∧ th_E C mc ms s o t
theorem th_ofW {l : Launch} {y : MethodName} {ws ws' : List Cond} {rm : Room} {Pc : Array Value → State → Prop} {C : String} {mc ms : Nat} {cc : ByteArray} {maxL : Nat} {ret : Option FieldType}
    (hy : plainName y.cls = true) (hw : ws = Cond.code y cc maxL ret :: ws')
    (body : ∀ p e s m args below meth c s₁, BodyLoose p l y (headSpec ws rm) cc maxL ret e s m args below meth c s₁ → c.maxLocals = maxL → c.exceptionTable.toList = [] → Pc args s →
      W p l e (headSpec ws rm).room s m args below meth c s.heap [] 0 0 (th_Q below C s mc ms) (entryFrame m args maxL)) : th_Met l y ws rm Pc C mc ms := by
  refine MetFree.of_bodyS (code := cc) (maxLocals := maxL) (ret := ret) hy ?_ ?_
  · intro args s m h hn
    obtain ⟨meth, c, h1, h2, h3, h4, h5, h6, -, -⟩ := Cond.code_spec hn (atoms_spec (ws := ws) h _ (by rw [hw]; exact List.mem_cons_self))
    exact ⟨meth, c, h1, h2, h3, h4, h5, h6⟩
  · intro p e s m args below meth c s₁ B hml hP _
    have hh0 : s₁.heap = s.heap := by rw [B.state]; rfl
    have hno : c.exceptionTable.isEmpty = true := B.noHandlers (atoms_spec (ws := ws) B.pre _ (by rw [hw]; exact List.mem_cons_self))
    have hno2 : c.exceptionTable.toList = [] := by simpa using hno
    obtain ⟨t, a1, o, b1, b2, b3⟩ := body p e s m args below meth c s₁ B hml hno2 hP s₁ hh0 (Stand.of_body B)
    exact ⟨t, o, a1, b1, b2, b3⟩
section TH
variable {p : Program} {l : Launch} {e : Env} {R : Room} {s : State} {m : MethodId} {args : Array Value} {below : List Frame} {meth : Method} {c : Code} {H : Heap} {locs : List Loc} {cells slots : Nat} {Q : State → Prop}
theorem th_off (hl : l.stackTraces = false) (ha : l.admits e) : e.platform.stackTraces = false := by
  rw [ha.platform]; exact hl
/-- from the constructor's call to the end: the object is made, and thrown -/
theorem th_throw {cc : ByteArray} {nL : Nat} (hexec : p.tables.exec = Jvm.exec) (hb : c.code = cc) (hml : c.maxLocals = nL) (htr : l.stackTraces = false) (hno : c.exceptionTable.toList = [])
    {own cls : String} {names : List String} {ic : Nat} (hown : s.vm.findClass own = some m.cls) (hcls : Bundle.fit cls = true) (hnames : ∀ n ∈ names, Bundle.fit n = true)
    (h : ∀ a ∈ Bundle.ownAtoms own ic cls names, a.before args s = true) {a : Addr} {cX : ClassId} {kX : Class} (hfX : s.vm.findClass cls = some cX) (hkX : s.vm.classes[cX]? = some kX)
    (hcell : H[a]? = some (blank cX kX)) (hnew : s.heap.size ≤ a) {b pc : Nat} {ls : Array Slot} (hsz : ls.size = nL)
    (hd6 : decode cc pc = .ok (.invokespecial ic, 3)) (hd9 : decode cc (pc + 3) = .ok (.athrow, 1)) (hRf : names.length + 3 < R.frames) (hRl : 13 * (names.length + 1) + 43 ≤ R.locals) (hlocks : meth.locks = false) :
    W p l e R s m args below meth c H [] cells slots (th_Q below cls s cells slots) (F0 m pc ls [.ref b, .ref a, .ref a]) := by
  intro T hT X
  obtain ⟨U, h1, h2, h3, h4, h5, ce, h6, h7⟩ := X.ctorThrowS hexec (th_off htr X.admits) hown hcls hnames h (fun x hx => by cases hx) hfX hkX (by rw [hT]; exact hcell) hnew (msg := .ref b) rfl
    (g := F0 m pc ls [.ref b, .ref a, .ref a]) rfl (by rw [hml]; exact hsz) rfl rfl (rest := []) rfl (by rw [hb]; exact hd6) (by rw [hb]; exact hd9) (fun x hx => by rw [hno] at hx; cases hx) hRf
    (by
      have e0 : (F0 m pc ls [.ref b, .ref a, .ref a]).monitorRoom = 0 := rfl
      simp only [e0, List.map_cons, List.map_nil, List.sum_cons, List.sum_nil, Value.category]
      omega) hlocks
  exact ⟨U, h1, .threw a, h2, h3, a, rfl, ⟨ce, h6, h7.vm, h7.cls⟩, h4, h5⟩
/-- throw new X("..") from its first instruction -/
theorem th_new {cc : ByteArray} {nL : Nat} (hexec : p.tables.exec = Jvm.exec) (hb : c.code = cc) (hml : c.maxLocals = nL) (htr : l.stackTraces = false) (hno : c.exceptionTable.toList = [])
    {own cls tx : String} {names : List String} {ic ix ik b : Nat} (hown : s.vm.findClass own = some m.cls) (hcls : Bundle.fit cls = true) (hnames : ∀ n ∈ names, Bundle.fit n = true)
    (h : ∀ a ∈ Bundle.ownAtoms own ic cls names, a.before args s = true) (hcl : (Cond.classLink own ix cls).before args s = true) (hins : (Cond.instantiable cls 6).before args s = true) (hini : (Cond.initialized cls).before args s = true)
    (hZ : vk_R own ik tx b s) (hH : s.heap.size ≤ H.size) {pc : Nat} {ls : Array Slot} (hsz : ls.size = nL)
    (hd0 : decode cc pc = .ok (.new ix, 3)) (hd3 : decode cc (pc + 3) = .ok (.dup, 1)) (hd4 : decode cc (pc + 4) = .ok (.ldc ik, 2)) (hd6 : decode cc (pc + 6) = .ok (.invokespecial ic, 3)) (hd9 : decode cc (pc + 9) = .ok (.athrow, 1))
    (hc : cells + 1 ≤ R.cells) (hs : slots + 6 ≤ R.slots) (hRf : names.length + 3 < R.frames) (hRl : 13 * (names.length + 1) + 43 ≤ R.locals) (hlocks : meth.locks = false) :
    W p l e R s m args below meth c H [] cells slots (th_Q below cls s (cells + 1) (slots + 6)) (F0 m pc ls []) := by
  obtain ⟨cX, hfX⟩ : ∃ cX, s.vm.findClass cls = some cX := by
    obtain ⟨c1, k1, hc1, -⟩ := Cond.instantiable_spec hins
    exact ⟨c1, hc1⟩
  refine W.newcK hexec hb hown hcl hins hini (g := F0 m pc ls []) rfl hd0 hc hs hfX rfl fun H1 kX hkX e1 z1 o1 => ?_
  refine W.eq (g2 := F0 m (pc + 3) ls [.ref H.size]) rfl ?_
  refine lv_dup hexec hb hd3 rfl ?_
  refine va_ldcS hexec hb hown hZ hd4 ?_
  exact th_throw hexec hb hml htr hno hown hcls hnames h hfX hkX e1 hH hsz hd6 hd9 hRf hRl hlocks
end TH
