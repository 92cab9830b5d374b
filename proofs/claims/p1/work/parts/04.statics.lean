/-! WHAT A THROW ASKS OF THE HEAP: Throwable's two statics, each null or a reference
-/
def th_L (C n d : String) (U : State) : Prop := ∃ (c : ClassId) (k : Class) (i : Nat) (f : Field) (a : Nat) (cell : Cell) (v : Value), U.vm.findClass C = some c ∧ U.fieldFound? C n d = some (c, k, i, f) ∧ f.isStatic = true ∧ k.statics = some a ∧ U.heap[a]? = some cell ∧ cell.vm.isStatics = true ∧ cell.cls = c ∧ f.slot < cell.slots.size ∧ k.staticTypes[f.slot]? = some f.type ∧ cell.slots[f.slot]? = some v ∧ v.isRef = true
theorem th_L.of {args : Array Value} {s : State} {C n d : String} (hl : (Cond.laysStatic C n d).before args s = true) (h : (Cond.isRef (.static C n d)).before args s = true) : th_L C n d s := by
  obtain ⟨c, k, i, f, a, cell, h1, h2, h3, h4, h5, h6, h7, h8, h9⟩ := Cond.laysStatic_spec hl
  have he : (Term.static C n d).eval args s none [] s = cell.slots[f.slot]? := by
    simp [Term.eval, State.fieldNamed?, h2, h3, h4, h5, h6]
  have hs : cell.slots[f.slot]? = some cell.slots[f.slot] := Array.getElem?_eq_getElem h8
  rw [hs] at he
  simp only [Cond.before, Cond.holds, Cond.value, he] at h
  refine ⟨c, k, i, f, a, cell, cell.slots[f.slot], h1, h2, h3, h4, h5, h6, h7, h8, h9, hs, ?_⟩
  revert h
  generalize cell.slots[f.slot] = v
  intro h
  cases v <;> simp_all [Value.isRef]
theorem th_L.go {C n d : String} {s U : State} (hvm : s.vm.Alike U.vm) (hH : ∀ q : Nat, q < s.heap.size → U.heap[q]? = s.heap[q]?) (h : th_L C n d s) : th_L C n d U := by
  obtain ⟨c, k, i, f, a, cell, v, h1, h2, h3, h4, h5, h6, h7, h8, h9, h10, h11⟩ := h
  obtain ⟨k', hi', he⟩ := State.fieldFound?_setVm hvm h2
  exact ⟨c, k', i, f, a, cell, v, by rw [hvm.findClass]; exact h1, hi', h3, by rw [he]; exact h4, by rw [hH a (Array.getElem?_eq_some_iff.mp h5).1]; exact h5, h6, h7, h8, by rw [he]; exact h9, h10, h11⟩
theorem th_L.lays {C n d : String} {s : State} {args : Array Value} (h : th_L C n d s) : (Cond.laysStatic C n d).before args s = true := by
  obtain ⟨c, k, i, f, a, cell, v, h1, h2, h3, h4, h5, h6, h7, h8, h9, -⟩ := h
  show (Cond.laysStatic C n d).holds args s none s [] = true
  exact Cond.laysStatic_of h1 h2 h3 h4 h5 h6 h7 h8 h9
theorem th_L.isRef {C n d : String} {s : State} {args : Array Value} (h : th_L C n d s) : (Cond.isRef (.static C n d)).before args s = true := by
  obtain ⟨c, k, i, f, a, cell, v, h1, h2, h3, h4, h5, h6, h7, h8, h9, h10, h11⟩ := h
  have he : (Term.static C n d).eval args s none [] s = some v := by
    simp [Term.eval, State.fieldNamed?, h2, h3, h4, h5, h6, h10]
  simp only [Cond.before, Cond.holds, Cond.value, he]
  cases v <;> simp_all [Value.isRef]
def th_S (U : State) : Prop := th_L Bundle.tN "UNASSIGNED_STACK" Bundle.steD U ∧ th_L Bundle.tN "SUPPRESSED_SENTINEL" Bundle.listD U
theorem th_S.go {s U : State} (hvm : s.vm.Alike U.vm) (hH : ∀ q : Nat, q < s.heap.size → U.heap[q]? = s.heap[q]?) (h : th_S s) : th_S U := ⟨h.1.go hvm hH, h.2.go hvm hH⟩
theorem th_decl {args : Array Value} {s : State} {x : MethodName} {bytes : ByteArray} {n : Nat} {ret : Option FieldType} (hi : (Cond.instanceMethod x).before args s = true) (hc : (Cond.code x bytes n ret).before args s = true) : (Cond.declares x).before args s = true := by
  obtain ⟨m, meth, h1, h2, h3, -⟩ := Cond.instanceMethod_spec hi
  obtain ⟨meth', c, h2', -, -, -, -, -, -, h4⟩ := Cond.code_spec h1 hc
  cases h2.symm.trans h2'
  simp [Cond.before, Cond.holds, Cond.value, h1, h2, h3, h4]
theorem th_cast {args : Array Value} {s : State} {X : String} {n : Nat} (hi : (Cond.instantiable X n).before args s = true) : (Cond.castable X X).before args s = true := by
  obtain ⟨c1, k1, hc1, -⟩ := Cond.instantiable_spec hi
  simp [Cond.before, Cond.holds, Cond.value, hc1, va_asg]
abbrev th_X : String := "java/lang/IndexOutOfBoundsException"
abbrev th_N : List String := ["java/lang/RuntimeException", "java/lang/Exception"]
theorem th_bad (own : String) (ic : Nat) : (Bundle.ownAtoms own ic th_X th_N).filter (fun w => !goodWord w) = [Cond.laysStatic Bundle.tN "UNASSIGNED_STACK" Bundle.steD, Cond.laysStatic Bundle.tN "SUPPRESSED_SENTINEL" Bundle.listD, Cond.declares (Bundle.initS "java/lang/RuntimeException"), Cond.declares (Bundle.initS "java/lang/Exception"), Cond.declares (Bundle.initS Bundle.tN), Cond.castable th_X th_X, Cond.isRef (.static Bundle.tN "UNASSIGNED_STACK" Bundle.steD), Cond.isRef (.static Bundle.tN "SUPPRESSED_SENTINEL" Bundle.listD)] := rfl
theorem th_good {args : Array Value} {s : State} {own : String} {ic : Nat} (h : ∀ w ∈ (Bundle.ownAtoms own ic th_X th_N).filter goodWord, w.before args s = true) (hS : th_S s) : ∀ a ∈ Bundle.ownAtoms own ic th_X th_N, a.before args s = true := by
  have hd : ∀ (X : String), Cond.instanceMethod (Bundle.initS X) ∈ (Bundle.ownAtoms own ic th_X th_N).filter goodWord → ∀ (bs : ByteArray), Cond.code (Bundle.initS X) bs 2 none ∈ (Bundle.ownAtoms own ic th_X th_N).filter goodWord → (Cond.declares (Bundle.initS X)).before args s = true :=
    fun X h1 bs h2 => th_decl (h _ h1) (h _ h2)
  intro a ha
  cases hg : goodWord a with
  | true => exact h a (List.mem_filter.mpr ⟨ha, hg⟩)
  | false =>
    have hm : a ∈ (Bundle.ownAtoms own ic th_X th_N).filter (fun w => !goodWord w) := List.mem_filter.mpr ⟨ha, by simp [hg]⟩
    rw [th_bad] at hm
    simp only [List.mem_cons, List.not_mem_nil, or_false] at hm
    rcases hm with rfl | rfl | rfl | rfl | rfl | rfl | rfl | rfl
    · exact hS.1.lays
    · exact hS.2.lays
    · exact hd _ (List.mem_filter.mpr ⟨by simp [Bundle.ownAtoms, Bundle.chainSAtoms, Bundle.passSAtoms], rfl⟩) Bundle.six (List.mem_filter.mpr ⟨by simp [Bundle.ownAtoms, Bundle.chainSAtoms, Bundle.passSAtoms], rfl⟩)
    · exact hd _ (List.mem_filter.mpr ⟨by simp [Bundle.ownAtoms, Bundle.chainSAtoms, Bundle.passSAtoms], rfl⟩) Bundle.six (List.mem_filter.mpr ⟨by simp [Bundle.ownAtoms, Bundle.chainSAtoms, Bundle.passSAtoms], rfl⟩)
    · exact th_decl (h _ (List.mem_filter.mpr ⟨by simp [Bundle.ownAtoms, Bundle.throwableSAtoms], rfl⟩)) (h (Cond.code (Bundle.initS Bundle.tN) _ 2 none) (List.mem_filter.mpr ⟨by simp only [Bundle.ownAtoms, Bundle.throwableSAtoms]; simp; exact Or.inr (Or.inl rfl), rfl⟩))
    · exact th_cast (h (Cond.instantiable th_X 6) (List.mem_filter.mpr ⟨by simp [Bundle.ownAtoms], rfl⟩))
    · exact hS.1.isRef
    · exact hS.2.isRef
