def nU (dC : Nat → ClassId) (dI : Nat → Nat → Nat) (ws : va_W) (tys : List (ClassId × FieldType)) (sz : Nat) (U : State) : Prop := U.heap.size = sz ∧ va_P (dC, dI) cls9 ws U.heap ∧ va_K (dC, dI) cls9 tys U ∧ va_D (fun _ => True) ws
theorem nBl {dC : Nat → ClassId} {dI : Nat → Nat → Nat} {ws : va_W} {tys : List (ClassId × FieldType)} {sz : Nat} {av : List Value} : FrameBlind (va_Pc av (nU dC dI ws tys sz)) := fun a U g mk q => ⟨q.1, q.2.1, q.2.2.1, va_K.moved (u := U) (U := U.calling g mk a) (Vm.Alike.refl U.vm) q.2.2.2.1, q.2.2.2.2⟩
theorem nPr {dC : Nat → ClassId} {dI : Nat → Nat → Nat} {ws : va_W} {tys : List (ClassId × FieldType)} {av : List Value} {s : State} {H : Heap} {A : Nat → Prop} (hP : va_P (dC, dI) cls9 ws H) (hK : va_K (dC, dI) cls9 tys s) (hD : va_D A ws) : ∀ U : State, U.heap = H → s.WarmedH U.vm → va_Pc av (nU dC dI ws tys H.size) av.toArray U := fun U hU hW => ⟨rfl, by rw [hU], by rw [hU]; exact hP, va_K.moved hW.alike hK, hD.weaken (fun _ _ _ _ => trivial)⟩
abbrev mN (h0 : Nat) (th le co : Int32) (qn : Nat) (fs : List Value) (cA : ClassId) (f : Nat → Int32) : va_W := [(h0, .inr (2, .int th :: .int le :: .int co :: .ref qn :: fs)), (qn, .inl (cA, 290816, .inl f))]
def nT (dC : Nat → ClassId) (dI : Nat → Nat → Nat) (h0 : Nat) (th le co : Int32) (qn : Nat) (fs : List Value) (cA : ClassId) (A : Nat → Prop) (t : State) : Prop := ∃ f : Nat → Int32, va_P (dC, dI) cls9 (mN h0 th le co qn fs cA f) t.heap ∧ va_K (dC, dI) cls9 [(cA, .int)] t ∧ va_D A (mN h0 th le co qn fs cA f)
set_option maxHeartbeats 4000000 in
set_option maxRecDepth 100000 in
theorem lp_clear {p : Program} {l : Launch} {e : Env} {R : Room} {s : State} {m : MethodId} {args : Array Value} {below : List Frame} {meth : Method} {c : Code} {Q : State → Prop} {cells slots : Nat} {dC : Nat → ClassId} {dI : Nat → Nat → Nat} {h0 : Nat} {th le : Int32} {qn : Nat} {fs : List Value} {cA : ClassId} {A : Nat → Prop} (hx : p.tables.exec = Jvm.exec) (hb : c.code = bM_clear) (hk : ∀ w ∈ W0, w.before args s = true) (hown : s.vm.findClass "ImageGcdsModel" = some m.cls) (hK : va_K (dC, dI) cls9 [(cA, .int)] s)
    (hexit : ∀ (f : Nat → Int32) (H : Heap) (locs : List Loc) (ls : Array Slot), va_P (dC, dI) cls9 (mN h0 th le 0 qn fs cA f) H → va_D A (mN h0 th le 0 qn fs cA f) → va_S A s.heap H locs → W p l e R s m args below meth c H locs cells slots Q (F0 m 28 ls [])) :
    ∀ (n i : Nat) (f : Nat → Int32) (H : Heap) (locs : List Loc) (ls : Array Slot), i ≤ 4096 → 4096 < i + n → va_P (dC, dI) cls9 (mN h0 th le 0 qn fs cA f) H → va_D A (mN h0 th le 0 qn fs cA f) → va_S A s.heap H locs → lv_has ls 3 [(2, .int (nI i)), (0, .ref h0), (1, .int 66)] → W p l e R s m args below meth c H locs cells slots Q (F0 m 2 ls []) := by
  intro n
  induction n with
  | zero => intro i f H locs ls h1 h2; exact absurd h2 (by omega)
  | succ n ih =>
    intro i f H locs ls hi hin hP hD hS hl
    refine lv_iload_n hx hb dM_clear_2 rfl (lv_at hl 0 rfl) ?_
    refine lv_sipush (v := 4096) hx hb dM_clear_3 (by decide) ?_
    refine lv_icmp_ge (tgt := 28) hx hb dM_clear_6 (by decide) (fun c1 => ?_) (fun c1 => ?_)
    · exact hexit f H locs ls hP hD hS
    · have hlt : i < 4096 := by
        rcases Nat.lt_or_ge i 4096 with q | q
        · exact q
        · exact absurd (show nI 4096 ≤ nI i from nI_le q (by omega)) c1
      refine lv_aload_n hx hb dM_clear_9 rfl (lv_at hl 1 rfl) ?_
      refine va_get (D := (dC, dI)) (ci := 2) (v := .ref qn) (C := "ImageGcdsModel") (T := TM) (N := 25) hx hb hk uM hown hK hP 0 rfl rfl 3 (by decide) (hk _ k102) (fun _ h9 => h9) rfl dM_clear_10 ?_
      refine lv_sipush (v := 4096) hx hb dM_clear_13 (by decide) ?_
      refine lv_iload_n hx hb dM_clear_16 rfl (lv_at hl 2 rfl) ?_
      refine lv_imul hx hb dM_clear_17 ?_
      refine lv_iload_n hx hb dM_clear_18 rfl (lv_at hl 0 rfl) ?_
      refine lv_iadd hx hb dM_clear_19 ?_
      refine lv_topi (fun x1 ex1 => ?_)
      have gx1 : x1 = nI (270336 + i) := by
        rw [ex1, show ((4096 : Int32) * 66) = nI 270336 by decide, nI_add]
      subst gx1
      have nx1 : vp_in (nI (270336 + i)) 290816 := vp_in_nI (by omega) (by decide)
      refine lv_iconst (v := 0) hx hb dM_clear_20 (by decide) ?_
      refine va_iast hx hb hK hP hD hS 1 0 rfl rfl nx1 dM_clear_21 (fun H locs hP hD hS => ?_)
      refine lv_iinc (v := nI (i + 1)) (lv' := [(2, .int (nI (i + 1))), (0, .ref h0), (1, .int 66)]) hx hb dM_clear_22 hl (k := 0) rfl (nI_succ i).symm (by decide) rfl (fun ls hl => ?_)
      refine lv_goto (tgt := 2) hx hb dM_clear_25 (by decide) ?_
      exact ih (i + 1) _ H locs ls (by omega) (by omega) hP hD hS hl
set_option maxHeartbeats 4000000 in
set_option maxRecDepth 100000 in
theorem cM_clear (l : Launch) (dC : Nat → ClassId) (dI : Nat → Nat → Nat) (h0 : Nat) (th le : Int32) (qn : Nat) (fs : List Value) (cA : ClassId) (f : Nat → Int32) (sz : Nat) : Met l yM_clear wM_clear ({ frames := 0, cells := 0, slots := 0, locals := 0 }) (va_Pc [.ref h0, .int 66] (nU dC dI (mN h0 th le 0 qn fs cA f) [(cA, .int)] sz)) (va_Qv (fun _ : Unit => True) (fun _ t => nT dC dI h0 th le 0 qn fs cA (va_A (mN h0 th le 0 qn fs cA f) sz) t) (va_A (mN h0 th le 0 qn fs cA f) sz)) 0 0 (va_A (mN h0 th le 0 qn fs cA f) sz) := by
  refine Met.ofW (cc := bM_clear) (maxL := 3) (ret := none) (by decide) rfl ?_
  intro p e s m args below meth c s₁ B hml hv
  obtain ⟨rfl, hsz, hP, hK, hD0⟩ := hv
  have hx := B.exec
  have hb := B.bytes
  have hr := B.returns
  have hts := atoms_spec (ws := wM_clear) B.pre
  have hk : ∀ w ∈ W0, w.before _ s = true := fun w h => hts w (List.mem_cons_of_mem _ h)
  have hown : s.vm.findClass "ImageGcdsModel" = some m.cls := findClass_of_methodNamed B.named
  have hlocks := B.notSynchronized
  subst hsz
  have hD := hD0.self (sz := s.heap.size)
  generalize va_A (mN h0 th le 0 qn fs cA f) s.heap.size = A at hD ⊢
  have hS : va_S A s.heap s.heap [] := va_S.rf
  have hl := lv_entry ([.ref h0, .int 66]) (n := 3) (Nat.le_of_ble_eq_true rfl)
  rw [lg_entry_eq]
  generalize (lg_sl ([.ref h0, .int 66]) ++ List.replicate (3 - (lg_sl ([.ref h0, .int 66])).length) Slot.unset).toArray = ls at hl ⊢
  have hl : lv_has ls 3 [(0, .ref h0), (1, .int 66)] := hl
  refine lv_iconst (v := 0) hx hb dM_clear_0 (by decide) ?_
  refine lv_istore_n (lv' := [(2, .int 0), (0, .ref h0), (1, .int 66)]) hx hb dM_clear_1 rfl hl (by decide) rfl (fun ls hl => ?_)
  exact lp_clear hx hb hk hown hK (fun f2 H locs ls hP hD hS => W.vret hx hb hr (fun t ht hW => ⟨⟨(), rfl, trivial, f2, by rw [ht]; exact hP, va_K.moved hW.alike hK, hD⟩, hS.F ht⟩) hS.2.2 dM_clear_28) 4097 0 f _ _ ls (Nat.zero_le _) (by decide) hP hD hS hl
set_option maxHeartbeats 4000000 in
set_option maxRecDepth 100000 in
theorem lp_copy {p : Program} {l : Launch} {e : Env} {R : Room} {s : State} {m : MethodId} {args : Array Value} {below : List Frame} {meth : Method} {c : Code} {Q : State → Prop} {cells slots : Nat} {dC : Nat → ClassId} {dI : Nat → Nat → Nat} {h0 : Nat} {th le : Int32} {qn : Nat} {fs : List Value} {cA : ClassId} {A : Nat → Prop} (hx : p.tables.exec = Jvm.exec) (hb : c.code = bM_copy) (hk : ∀ w ∈ W0, w.before args s = true) (hown : s.vm.findClass "ImageGcdsModel" = some m.cls) (hK : va_K (dC, dI) cls9 [(cA, .int)] s)
    (hexit : ∀ (f : Nat → Int32) (H : Heap) (locs : List Loc) (ls : Array Slot), va_P (dC, dI) cls9 (mN h0 th le 0 qn fs cA f) H → va_D A (mN h0 th le 0 qn fs cA f) → va_S A s.heap H locs → W p l e R s m args below meth c H locs cells slots Q (F0 m 39 ls [])) :
    ∀ (n i : Nat) (f : Nat → Int32) (H : Heap) (locs : List Loc) (ls : Array Slot), i ≤ 4096 → 4096 < i + n → va_P (dC, dI) cls9 (mN h0 th le 0 qn fs cA f) H → va_D A (mN h0 th le 0 qn fs cA f) → va_S A s.heap H locs → lv_has ls 4 [(3, .int (nI i)), (0, .ref h0), (1, .int 66), (2, .int 0)] → W p l e R s m args below meth c H locs cells slots Q (F0 m 2 ls []) := by
  intro n
  induction n with
  | zero => intro i f H locs ls h1 h2; exact absurd h2 (by omega)
  | succ n ih =>
    intro i f H locs ls hi hin hP hD hS hl
    refine lv_iload_n hx hb dM_copy_2 rfl (lv_at hl 0 rfl) ?_
    refine lv_sipush (v := 4096) hx hb dM_copy_3 (by decide) ?_
    refine lv_icmp_ge (tgt := 39) hx hb dM_copy_6 (by decide) (fun c1 => ?_) (fun c1 => ?_)
    · exact hexit f H locs ls hP hD hS
    · have hlt : i < 4096 := by
        rcases Nat.lt_or_ge i 4096 with q | q
        · exact q
        · exact absurd (show nI 4096 ≤ nI i from nI_le q (by omega)) c1
      refine lv_aload_n hx hb dM_copy_9 rfl (lv_at hl 1 rfl) ?_
      refine va_get (D := (dC, dI)) (ci := 2) (v := .ref qn) (C := "ImageGcdsModel") (T := TM) (N := 25) hx hb hk uM hown hK hP 0 rfl rfl 3 (by decide) (hk _ k102) (fun _ h9 => h9) rfl dM_copy_10 ?_
      refine lv_sipush (v := 4096) hx hb dM_copy_13 (by decide) ?_
      refine lv_iload_n hx hb dM_copy_16 rfl (lv_at hl 3 rfl) ?_
      refine lv_imul hx hb dM_copy_17 ?_
      refine lv_iload_n hx hb dM_copy_18 rfl (lv_at hl 0 rfl) ?_
      refine lv_iadd hx hb dM_copy_19 ?_
      refine lv_topi (fun x1 ex1 => ?_)
      have gx1 : x1 = nI (0 + i) := by
        rw [ex1, show ((4096 : Int32) * 0) = nI 0 by decide, nI_add]
      subst gx1
      have nx1 : vp_in (nI (0 + i)) 290816 := vp_in_nI (by omega) (by decide)
      refine lv_aload_n hx hb dM_copy_20 rfl (lv_at hl 1 rfl) ?_
      refine va_get (D := (dC, dI)) (ci := 2) (v := .ref qn) (C := "ImageGcdsModel") (T := TM) (N := 25) hx hb hk uM hown hK hP 0 rfl rfl 3 (by decide) (hk _ k102) (fun _ h9 => h9) rfl dM_copy_21 ?_
      refine lv_sipush (v := 4096) hx hb dM_copy_24 (by decide) ?_
      refine lv_iload_n hx hb dM_copy_27 rfl (lv_at hl 2 rfl) ?_
      refine lv_imul hx hb dM_copy_28 ?_
      refine lv_iload_n hx hb dM_copy_29 rfl (lv_at hl 0 rfl) ?_
      refine lv_iadd hx hb dM_copy_30 ?_
      refine lv_topi (fun x2 ex2 => ?_)
      have gx2 : x2 = nI (270336 + i) := by
        rw [ex2, show ((4096 : Int32) * 66) = nI 270336 by decide, nI_add]
      subst gx2
      have nx2 : vp_in (nI (270336 + i)) 290816 := vp_in_nI (by omega) (by decide)
      refine va_iald hx hb hK hP 1 0 rfl rfl nx2 dM_copy_31 ?_
      refine lv_topi (fun z ez => ?_)
      refine va_iast hx hb hK hP hD hS 1 0 rfl rfl nx1 dM_copy_32 (fun H locs hP hD hS => ?_)
      refine lv_iinc (v := nI (i + 1)) (lv' := [(3, .int (nI (i + 1))), (0, .ref h0), (1, .int 66), (2, .int 0)]) hx hb dM_copy_33 hl (k := 0) rfl (nI_succ i).symm (by decide) rfl (fun ls hl => ?_)
      refine lv_goto (tgt := 2) hx hb dM_copy_36 (by decide) ?_
      exact ih (i + 1) _ H locs ls (by omega) (by omega) hP hD hS hl
set_option maxHeartbeats 4000000 in
set_option maxRecDepth 100000 in
theorem cM_copy (l : Launch) (dC : Nat → ClassId) (dI : Nat → Nat → Nat) (h0 : Nat) (th le : Int32) (qn : Nat) (fs : List Value) (cA : ClassId) (f : Nat → Int32) (sz : Nat) : Met l yM_copy wM_copy ({ frames := 0, cells := 0, slots := 0, locals := 0 }) (va_Pc [.ref h0, .int 66, .int 0] (nU dC dI (mN h0 th le 0 qn fs cA f) [(cA, .int)] sz)) (va_Qv (fun _ : Unit => True) (fun _ t => nT dC dI h0 th le 0 qn fs cA (va_A (mN h0 th le 0 qn fs cA f) sz) t) (va_A (mN h0 th le 0 qn fs cA f) sz)) 0 0 (va_A (mN h0 th le 0 qn fs cA f) sz) := by
  refine Met.ofW (cc := bM_copy) (maxL := 4) (ret := none) (by decide) rfl ?_
  intro p e s m args below meth c s₁ B hml hv
  obtain ⟨rfl, hsz, hP, hK, hD0⟩ := hv
  have hx := B.exec
  have hb := B.bytes
  have hr := B.returns
  have hts := atoms_spec (ws := wM_copy) B.pre
  have hk : ∀ w ∈ W0, w.before _ s = true := fun w h => hts w (List.mem_cons_of_mem _ h)
  have hown : s.vm.findClass "ImageGcdsModel" = some m.cls := findClass_of_methodNamed B.named
  have hlocks := B.notSynchronized
  subst hsz
  have hD := hD0.self (sz := s.heap.size)
  generalize va_A (mN h0 th le 0 qn fs cA f) s.heap.size = A at hD ⊢
  have hS : va_S A s.heap s.heap [] := va_S.rf
  have hl := lv_entry ([.ref h0, .int 66, .int 0]) (n := 4) (Nat.le_of_ble_eq_true rfl)
  rw [lg_entry_eq]
  generalize (lg_sl ([.ref h0, .int 66, .int 0]) ++ List.replicate (4 - (lg_sl ([.ref h0, .int 66, .int 0])).length) Slot.unset).toArray = ls at hl ⊢
  have hl : lv_has ls 4 [(0, .ref h0), (1, .int 66), (2, .int 0)] := hl
  refine lv_iconst (v := 0) hx hb dM_copy_0 (by decide) ?_
  refine lv_istore_n (lv' := [(3, .int 0), (0, .ref h0), (1, .int 66), (2, .int 0)]) hx hb dM_copy_1 rfl hl (by decide) rfl (fun ls hl => ?_)
  exact lp_copy hx hb hk hown hK (fun f2 H locs ls hP hD hS => W.vret hx hb hr (fun t ht hW => ⟨⟨(), rfl, trivial, f2, by rw [ht]; exact hP, va_K.moved hW.alike hK, hD⟩, hS.F ht⟩) hS.2.2 dM_copy_39) 4097 0 f _ _ ls (Nat.zero_le _) (by decide) hP hD hS hl
set_option maxHeartbeats 4000000 in
set_option maxRecDepth 100000 in
theorem cM_thrown9 (l : Launch) (dC : Nat → ClassId) (dI : Nat → Nat → Nat) (h0 : Nat) (th le co : Int32) (fs : List Value) (sz : Nat) : Met l yM_thrown wM_thrown ({ frames := 0, cells := 0, slots := 0, locals := 0 }) (va_Pc [.ref h0] (nU dC dI (mW h0 th le co fs) [] sz)) (vp_Si (fun r => r = th)) 0 0 (fun _ => False) := by
  refine Met.ofW (cc := bM_thrown) (maxL := 1) (ret := (some .int)) (by decide) rfl ?_
  intro p e s m args below meth c s₁ B hml hv
  obtain ⟨rfl, hsz, hP, hK, hD0⟩ := hv
  have hx := B.exec
  have hb := B.bytes
  have hr := B.returns
  have hts := atoms_spec (ws := wM_thrown) B.pre
  have hk : ∀ w ∈ W0, w.before _ s = true := fun w h => hts w (List.mem_cons_of_mem _ h)
  have hown : s.vm.findClass "ImageGcdsModel" = some m.cls := findClass_of_methodNamed B.named
  have hlocks := B.notSynchronized
  have hl := lv_entry ([.ref h0]) (n := 1) (Nat.le_of_ble_eq_true rfl)
  rw [lg_entry_eq]
  generalize (lg_sl ([.ref h0]) ++ List.replicate (1 - (lg_sl ([.ref h0])).length) Slot.unset).toArray = ls at hl ⊢
  have hl : lv_has ls 1 [(0, .ref h0)] := hl
  refine lv_aload_n hx hb dM_thrown_0 rfl (lv_at hl 0 rfl) ?_
  refine va_get (D := (dC, dI)) (ci := 2) (v := .int th) (C := "ImageGcdsModel") (T := TM) (N := 25) hx hb hk uM hown hK hP 0 rfl rfl 0 (by decide) (hk _ k73) (fun _ h9 => h9) rfl dM_thrown_1 ?_
  exact W.iret (v := th) hx hb hr (fun t ht hW => ⟨_, rfl, rfl, ht⟩) (fun q h => nomatch h) dM_thrown_4
set_option maxHeartbeats 4000000 in
set_option maxRecDepth 100000 in
theorem cM_made (l : Launch) (dC : Nat → ClassId) (dI : Nat → Nat → Nat) (h0 : Nat) (th le : Int32) (qn : Nat) (fs : List Value) (cA : ClassId) (f : Nat → Int32) (sz : Nat) : Met l yM_made wM_made ({ frames := 1, cells := 0, slots := 0, locals := 30 }) (va_Pc [.ref h0, .int 66] (nU dC dI (mN h0 th le 0 qn fs cA f) [(cA, .int)] sz)) (va_Qi (fun (r : Int32) (_ : Unit) => r = 0) (fun _ t => nT dC dI h0 th le 1 qn fs cA (va_A (mN h0 th le 0 qn fs cA f) sz) t) (va_A (mN h0 th le 0 qn fs cA f) sz)) 0 0 (va_A (mN h0 th le 0 qn fs cA f) sz) := by
  refine Met.ofW (cc := bM_made) (maxL := 2) (ret := (some .int)) (by decide) rfl ?_
  intro p e s m args below meth c s₁ B hml hv
  obtain ⟨rfl, hsz, hP, hK, hD0⟩ := hv
  have hx := B.exec
  have hb := B.bytes
  have hr := B.returns
  have hts := atoms_spec (ws := wM_made) B.pre
  have hk : ∀ w ∈ W0, w.before _ s = true := fun w h => hts w (List.mem_cons_of_mem _ h)
  have hown : s.vm.findClass "ImageGcdsModel" = some m.cls := findClass_of_methodNamed B.named
  have hlocks := B.notSynchronized
  subst hsz
  have hD := hD0.self (sz := s.heap.size)
  generalize hAe : va_A (mN h0 th le 0 qn fs cA f) s.heap.size = A at hD ⊢
  have hA : ∀ q : Nat, s.heap.size ≤ q → A q := fun q h => by rw [← hAe]; exact Or.inr h
  have hS : va_S A s.heap s.heap [] := va_S.rf
  have hl := lv_entry ([.ref h0, .int 66]) (n := 2) (Nat.le_of_ble_eq_true rfl)
  rw [lg_entry_eq]
  generalize (lg_sl ([.ref h0, .int 66]) ++ List.replicate (2 - (lg_sl ([.ref h0, .int 66])).length) Slot.unset).toArray = ls at hl ⊢
  have hl : lv_has ls 2 [(0, .ref h0), (1, .int 66)] := hl
  refine lv_aload_n hx hb dM_made_0 rfl (lv_at hl 0 rfl) ?_
  refine lv_iload_n hx hb dM_made_1 rfl (lv_at hl 1 rfl) ?_
  refine lv_aload_n hx hb dM_made_2 rfl (lv_at hl 0 rfl) ?_
  refine va_get (D := (dC, dI)) (ci := 2) (v := .int 0) (C := "ImageGcdsModel") (T := TM) (N := 25) hx hb hk uM hown hK hP 0 rfl rfl 2 (by decide) (hk _ k66) (fun _ h9 => h9) rfl dM_made_3 ?_
  have hFc := va_free (wc := (mN h0 th le 0 qn fs cA f)) hD hS hA [0, 1] rfl
  refine va_callv (va_runV (As := [.int 66, .int 0]) (rest := []) ⟨hx, hb, hml, hown, hk⟩ (cM_copy l dC dI h0 th le qn fs cA f _) (cwV 2 hk (gV k124 k125 k126 k71 k127) rfl rfl rfl (by decide +kernel) ⟨Nat.le_of_ble_eq_true rfl, Nat.le_of_ble_eq_true rfl⟩) ⟨nBl, va_recv hK hP (ci := 2) (q0 := 0) rfl rfl, nPr hP hK hD⟩ rfl rfl hl.1 rfl (lv_room (Nat.le_of_ble_eq_true rfl)) dM_made_6 ⟨Nat.le_of_ble_eq_true rfl, Nat.le_of_ble_eq_true rfl⟩) hS (fun q _ h => hFc q h) hFc (fun u t H1 locs ht hvm hw hB hz1 hk1 hS => ?_)
  obtain ⟨f2, hP1, hK1, hD1⟩ := hB
  rw [ht] at hP1
  obtain ⟨hP, hD⟩ := va_join (wr := []) (w1 := (mN h0 th le 0 qn fs cA f2)) hP hD [0, 1] [] rfl rfl (by decide) (by decide) hk1 hFc hP1 hD1
  generalize H1 = H at hP hS ⊢
  have hP : va_P (dC, dI) cls9 (mN h0 th le 0 qn fs cA f2) H := hP
  have hD : va_D A (mN h0 th le 0 qn fs cA f2) := hD
  refine lv_aload_n hx hb dM_made_9 rfl (lv_at hl 0 rfl) ?_
  refine lv_dup hx hb dM_made_10 rfl ?_
  refine va_get (D := (dC, dI)) (ci := 2) (v := .int 0) (C := "ImageGcdsModel") (T := TM) (N := 25) hx hb hk uM hown hK hP 0 rfl rfl 2 (by decide) (hk _ k66) (fun _ h9 => h9) rfl dM_made_11 ?_
  refine lv_iconst (v := 1) hx hb dM_made_14 (by decide) ?_
  refine lv_iadd hx hb dM_made_15 ?_
  refine lv_topi (fun v1 ev1 => ?_)
  have ev1 : v1 = 1 := ev1.trans (by decide)
  subst ev1
  refine va_put (D := (dC, dI)) (ci := 2) (v := .int 1) (ty := .int) (C := "ImageGcdsModel") (T := TM) (N := 25) hx hb hk uM tM tM_ok nM hown hK hP hD hS 0 rfl rfl 2 (by decide) (hk _ k66) (fun _ h9 => h9) rfl (by decide +kernel) rfl rfl (by simp) dM_made_16 (fun H locs hP hD hS => ?_)
  have hP : va_P (dC, dI) cls9 (mN h0 th le 1 qn fs cA f2) H := hP
  have hD : va_D A (mN h0 th le 1 qn fs cA f2) := hD
  refine lv_aload_n hx hb dM_made_19 rfl (lv_at hl 0 rfl) ?_
  refine va_get (D := (dC, dI)) (ci := 2) (v := .int 1) (C := "ImageGcdsModel") (T := TM) (N := 25) hx hb hk uM hown hK hP 0 rfl rfl 2 (by decide) (hk _ k66) (fun _ h9 => h9) rfl dM_made_20 ?_
  refine lv_iconst (v := 1) hx hb dM_made_23 (by decide) ?_
  refine lv_isub hx hb dM_made_24 ?_
  refine lv_topi (fun v2 ev2 => ?_)
  have ev2 : v2 = 0 := ev2.trans (by decide)
  subst ev2
  exact W.iret (v := 0) hx hb hr (fun t ht hW => ⟨⟨0, (), rfl, rfl, f2, by rw [ht]; exact hP, va_K.moved hW.alike hK, hD⟩, hS.F ht⟩) hS.2.2 dM_made_25
set_option maxHeartbeats 4000000 in
set_option maxRecDepth 100000 in
theorem cM_poly (l : Launch) (dC : Nat → ClassId) (dI : Nat → Nat → Nat) (h0 : Nat) (th le : Int32) (qn : Nat) (fs : List Value) (cA : ClassId) (f : Nat → Int32) (sz : Nat) : Met l yM_poly wM_poly ({ frames := 2, cells := 0, slots := 0, locals := 60 }) (va_Pc [.ref h0] (nU dC dI (mN h0 th le 0 qn fs cA f) [(cA, .int)] sz)) (va_Qi (fun (r : Int32) (_ : Unit) => r = 0) (fun _ t => nT dC dI h0 0 le 1 qn fs cA (va_A (mN h0 th le 0 qn fs cA f) sz) t) (va_A (mN h0 th le 0 qn fs cA f) sz)) 0 0 (va_A (mN h0 th le 0 qn fs cA f) sz) := by
  refine Met.ofW (cc := bM_poly) (maxL := 1) (ret := (some .int)) (by decide) rfl ?_
  intro p e s m args below meth c s₁ B hml hv
  obtain ⟨rfl, hsz, hP, hK, hD0⟩ := hv
  have hx := B.exec
  have hb := B.bytes
  have hr := B.returns
  have hts := atoms_spec (ws := wM_poly) B.pre
  have hk : ∀ w ∈ W0, w.before _ s = true := fun w h => hts w (List.mem_cons_of_mem _ h)
  have hown : s.vm.findClass "ImageGcdsModel" = some m.cls := findClass_of_methodNamed B.named
  have hlocks := B.notSynchronized
  subst hsz
  have hD := hD0.self (sz := s.heap.size)
  generalize hAe : va_A (mN h0 th le 0 qn fs cA f) s.heap.size = A at hD ⊢
  have hA : ∀ q : Nat, s.heap.size ≤ q → A q := fun q h => by rw [← hAe]; exact Or.inr h
  have hS : va_S A s.heap s.heap [] := va_S.rf
  have hl := lv_entry ([.ref h0]) (n := 1) (Nat.le_of_ble_eq_true rfl)
  rw [lg_entry_eq]
  generalize (lg_sl ([.ref h0]) ++ List.replicate (1 - (lg_sl ([.ref h0])).length) Slot.unset).toArray = ls at hl ⊢
  have hl : lv_has ls 1 [(0, .ref h0)] := hl
  refine lv_aload_n hx hb dM_poly_0 rfl (lv_at hl 0 rfl) ?_
  refine lv_aload_n hx hb dM_poly_1 rfl (lv_at hl 0 rfl) ?_
  have hP0 := hP.sub (ws' := mW h0 th le 0 (.ref qn :: fs)) [0] rfl
  have hK0 := hK.sub (tys' := []) [] rfl
  refine vp_callSi (W.runV (As := []) (rest := [.ref h0]) ⟨hx, hb, hml, hown, hk⟩ (cM_isFull l dC dI h0 th le (.ref qn :: fs)) (cwV 0 hk (gV k85 k86 k87 k71 k88) rfl rfl rfl (by decide +kernel) ⟨Nat.le_of_ble_eq_true rfl, Nat.le_of_ble_eq_true rfl⟩) ⟨mB, va_recv hK0 hP0 (ci := 2) (q0 := 0) rfl rfl, mP hP0 hK0⟩ rfl rfl hl.1 rfl (lv_room (Nat.le_of_ble_eq_true rfl)) dM_poly_2 ⟨Nat.le_of_ble_eq_true rfl, Nat.le_of_ble_eq_true rfl⟩) (fun r1 hw => ?_)
  subst hw
  refine lv_iconst (v := 0) hx hb dM_poly_5 (by decide) ?_
  refine lv_iconst (v := 0) hx hb dM_poly_6 (by decide) ?_
  have hA0 : A h0 := hD.2 0 _ rfl
  have hne : ¬ qn = h0 := fun q => absurd (hD.1 1 0 _ _ rfl rfl q) (by decide)
  refine va_calli (va_runV (As := [.int 0, .int 0, .int 0]) (rest := []) ⟨hx, hb, hml, hown, hk⟩ (cM_fails0 l dC dI h0 th le (.ref qn :: fs)) (cwV 3 hk (gV k77 k78 k79 k71 k80) rfl rfl rfl (by decide +kernel) ⟨Nat.le_of_ble_eq_true rfl, Nat.le_of_ble_eq_true rfl⟩) ⟨mB, va_recv hK0 hP0 (ci := 2) (q0 := 0) rfl rfl, mP hP0 hK0⟩ rfl rfl hl.1 rfl (lv_room (Nat.le_of_ble_eq_true rfl)) dM_poly_7 ⟨Nat.le_of_ble_eq_true rfl, Nat.le_of_ble_eq_true rfl⟩) hS (fun q _ h => by rw [h]; exact hA0) (fun q h => by rw [h]; exact hA0) (fun r2 _ t H1 locs ht hvm hw hB hz1 hk1 hS => ?_)
  subst hw
  obtain ⟨hPo, hKo⟩ := hB
  rw [ht] at hPo
  have hPa : va_P (dC, dI) cls9 [(qn, .inl (cA, 290816, .inl f))] H1 := fun j x hx => by
    match j, hx with
    | 0, hx => cases hx; exact (hP 1 _ rfl).kept (hk1 qn (hP 1 _ rfl).lt hne)
    | j + 1, hx => simp at hx
  have hP : va_P (dC, dI) cls9 (mN h0 0 le 0 qn fs cA f) H1 := hPo.app hPa
  have hD : va_D A (mN h0 0 le 0 qn fs cA f) := hD.set (p := 0) (e := .inr (2, .int 0 :: .int le :: .int 0 :: .ref qn :: fs)) rfl
  generalize H1 = H at hP hS ⊢
  refine lv_if_eq (tgt := 15) hx hb dM_poly_10 (by decide) (fun c1 => ?_) (fun c1 => ?_)
  · skip
    refine lv_aload_n hx hb dM_poly_15 rfl (lv_at hl 0 rfl) ?_
    refine lv_bipush (v := 66) hx hb dM_poly_16 (by decide) ?_
    have hFc := va_free (wc := (mN h0 0 le 0 qn fs cA f)) hD hS hA [0, 1] rfl
    refine va_callv (va_runV (As := [.int 66]) (rest := []) ⟨hx, hb, hml, hown, hk⟩ (cM_clear l dC dI h0 0 le qn fs cA f _) (cwV 1 hk (gV k128 k129 k130 k71 k131) rfl rfl rfl (by decide +kernel) ⟨Nat.le_of_ble_eq_true rfl, Nat.le_of_ble_eq_true rfl⟩) ⟨nBl, va_recv hK hP (ci := 2) (q0 := 0) rfl rfl, nPr hP hK hD⟩ rfl rfl hl.1 rfl (lv_room (Nat.le_of_ble_eq_true rfl)) dM_poly_18 ⟨Nat.le_of_ble_eq_true rfl, Nat.le_of_ble_eq_true rfl⟩) hS (fun q _ h => hFc q h) hFc (fun u t H1 locs ht hvm hw hB hz1 hk1 hS => ?_)
    obtain ⟨f2, hP1, hK1, hD1⟩ := hB
    rw [ht] at hP1
    obtain ⟨hP, hD⟩ := va_join (wr := []) (w1 := (mN h0 0 le 0 qn fs cA f2)) hP hD [0, 1] [] rfl rfl (by decide) (by decide) hk1 hFc hP1 hD1
    generalize H1 = H at hP hS ⊢
    have hP : va_P (dC, dI) cls9 (mN h0 0 le 0 qn fs cA f2) H := hP
    have hD : va_D A (mN h0 0 le 0 qn fs cA f2) := hD
    refine lv_aload_n hx hb dM_poly_21 rfl (lv_at hl 0 rfl) ?_
    refine lv_bipush (v := 66) hx hb dM_poly_22 (by decide) ?_
    have hFc := va_free (wc := (mN h0 0 le 0 qn fs cA f2)) hD hS hA [0, 1] rfl
    refine va_calli (va_runV (As := [.int 66]) (rest := []) ⟨hx, hb, hml, hown, hk⟩ (cM_made l dC dI h0 0 le qn fs cA f2 _) (cwV 1 hk (gV k132 k133 k134 k71 k135) rfl rfl rfl (by decide +kernel) ⟨Nat.le_of_ble_eq_true rfl, Nat.le_of_ble_eq_true rfl⟩) ⟨nBl, va_recv hK hP (ci := 2) (q0 := 0) rfl rfl, nPr hP hK hD⟩ rfl rfl hl.1 rfl (lv_room (Nat.le_of_ble_eq_true rfl)) dM_poly_24 ⟨Nat.le_of_ble_eq_true rfl, Nat.le_of_ble_eq_true rfl⟩) hS (fun q _ h => hFc q h) hFc (fun r3 u t H1 locs ht hvm hw hB hz1 hk1 hS => ?_)
    subst hw
    obtain ⟨f3, hP1, hK1, hD1⟩ := hB
    rw [ht] at hP1
    obtain ⟨hP, hD⟩ := va_join (wr := []) (w1 := mN h0 0 le 1 qn fs cA f3) hP hD [0, 1] [] rfl rfl (by decide) (by decide) hk1 hFc hP1 hD1
    generalize H1 = H at hP hS ⊢
    exact W.iret (v := 0) hx hb hr (fun t ht hW => ⟨⟨0, (), rfl, rfl, f3, by rw [ht]; exact hP, va_K.moved hW.alike hK, hD⟩, hS.F ht⟩) hS.2.2 dM_poly_27
  · exact absurd rfl c1
