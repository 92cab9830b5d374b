def nU (dC : Nat → ClassId) (dI : Nat → Nat → Nat) (ws : va_W) (tys : List (ClassId × FieldType)) (sz : Nat) (U : State) : Prop := U.heap.size = sz ∧ va_P (dC, dI) cls9 ws U.heap ∧ va_K (dC, dI) cls9 tys U ∧ va_D (fun _ => True) ws
theorem nBl {dC : Nat → ClassId} {dI : Nat → Nat → Nat} {ws : va_W} {tys : List (ClassId × FieldType)} {sz : Nat} {av : List Value} : FrameBlind (va_Pc av (nU dC dI ws tys sz)) := fun a U g mk q => ⟨q.1, q.2.1, q.2.2.1, va_K.moved (u := U) (U := U.calling g mk a) (Vm.Alike.refl U.vm) q.2.2.2.1, q.2.2.2.2⟩
theorem nPr {dC : Nat → ClassId} {dI : Nat → Nat → Nat} {ws : va_W} {tys : List (ClassId × FieldType)} {av : List Value} {s : State} {H : Heap} {A : Nat → Prop} (hP : va_P (dC, dI) cls9 ws H) (hK : va_K (dC, dI) cls9 tys s) (hD : va_D A ws) : ∀ U : State, U.heap = H → s.WarmedH U.vm → va_Pc av (nU dC dI ws tys H.size) av.toArray U := fun U hU hW => ⟨rfl, by rw [hU], by rw [hU]; exact hP, va_K.moved hW.alike hK, hD.weaken (fun _ _ _ _ => trivial)⟩
abbrev mN (h0 : Nat) (th le co : Int32) (qn : Nat) (fs : List Value) (cA : ClassId) (f : Nat → Int32) : va_W := [(h0, .inr (2, .int th :: .int le :: .int co :: .ref qn :: fs)), (qn, .inl (cA, 290816, .inl f))]
def nT (dC : Nat → ClassId) (dI : Nat → Nat → Nat) (h0 : Nat) (th le co : Int32) (qn : Nat) (fs : List Value) (cA : ClassId) (A : Nat → Prop) (t : State) : Prop := ∃ f : Nat → Int32, va_P (dC, dI) cls9 (mN h0 th le co qn fs cA f) t.heap ∧ va_K (dC, dI) cls9 [(cA, .int)] t ∧ va_D A (mN h0 th le co qn fs cA f)
set_option maxHeartbeats 4000000 in
set_option maxRecDepth 100000 in
theorem lp_clear {p : Program} {l : Launch} {e : Env} {R : Room} {s : State} {m : MethodId} {args : Array Value} {below : List Frame} {meth : Method} {c : Code} {Q : State → Prop} {cells slots : Nat} {dC : Nat → ClassId} {dI : Nat → Nat → Nat} {h0 : Nat} {th le : Int32} {qn : Nat} {fs : List Value} {cA : ClassId} {A : Nat → Prop} (hx : p.tables.exec = Jvm.exec) (hb : c.code = bM_clear) (hk : ∀ w ∈ W0, w.before args s = true) (hown : s.vm.findClass "ImageGcdsModel" = some m.cls) (hK : va_K (dC, dI) cls9 [(cA, .int)] s)
    (hexit : ∀ (f : Nat → Int32) (H : Heap) (locs : List Loc) (ls : Array Slot), va_P (dC, dI) cls9 (mN h0 th le 0 qn fs cA f) H → va_D A (mN h0 th le 0 qn fs cA f) → va_S A s.heap H locs → W p l e R s m args below meth c H locs cells slots Q (F0 m 28 ls [])) :
    ∀ (n i : Nat) (f : Nat → Int32) (H : Heap) (locs : List Loc) (ls : Array Slot), i ≤ 4096 → 4096 < i + n → va_P (dC, dI) cls9 (mN h0 th le 0 qn fs cA f) H → va_D A (mN h0 th le 0 qn fs cA f) → va_S A s.heap H locs → lv_has ls 3 [(2, .int (nI i)), (0, .ref h0), (1, .int 66)] → W p l e R s m args below meth c H locs cells slots Q (F0 m 2 ls []) := by
  intro n
  induction n with
  | zero => intro i f H locs ls h1 h2; exact absurd h2 (by omega)
  | succ n ih =>
    intro i f H locs ls hi hin hP hD hS hl
    refine lv_iload_n hx hb dM_clear_2 rfl (lv_at hl 0 rfl) ?_
    refine lv_sipush (v := 4096) hx hb dM_clear_3 (by decide) ?_
    refine lv_icmp_ge (tgt := 28) hx hb dM_clear_6 (by decide) (fun c1 => ?_) (fun c1 => ?_)
    · exact hexit f H locs ls hP hD hS
    · have hlt : i < 4096 := by
        rcases Nat.lt_or_ge i 4096 with q | q
        · exact q
        · exact absurd (show nI 4096 ≤ nI i from nI_le q (by omega)) c1
      refine lv_aload_n hx hb dM_clear_9 rfl (lv_at hl 1 rfl) ?_
      refine va_get (D := (dC, dI)) (ci := 2) (v := .ref qn) (C := "ImageGcdsModel") (T := TM) (N := 25) hx hb hk uM hown hK hP 0 rfl rfl 3 (by decide) (hk _ k102) (fun _ h9 => h9) rfl dM_clear_10 ?_
      refine lv_sipush (v := 4096) hx hb dM_clear_13 (by decide) ?_
      refine lv_iload_n hx hb dM_clear_16 rfl (lv_at hl 2 rfl) ?_
      refine lv_imul hx hb dM_clear_17 ?_
      refine lv_iload_n hx hb dM_clear_18 rfl (lv_at hl 0 rfl) ?_
      refine lv_iadd hx hb dM_clear_19 ?_
      refine lv_topi (fun x1 ex1 => ?_)
      have gx1 : x1 = nI (270336 + i) := by
        rw [ex1, show ((4096 : Int32) * 66) = nI 270336 by decide, nI_add]
      subst gx1
      have nx1 : vp_in (nI (270336 + i)) 290816 := vp_in_nI (by omega) (by decide)
      refine lv_iconst (v := 0) hx hb dM_clear_20 (by decide) ?_
      refine va_iast hx hb hK hP hD hS 1 0 rfl rfl nx1 dM_clear_21 (fun H locs hP hD hS => ?_)
      refine lv_iinc (v := nI (i + 1)) (lv' := [(2, .int (nI (i + 1))), (0, .ref h0), (1, .int 66)]) hx hb dM_clear_22 hl (k := 0) rfl (nI_succ i).symm (by decide) rfl (fun ls hl => ?_)
      refine lv_goto (tgt := 2) hx hb dM_clear_25 (by decide) ?_
      exact ih (i + 1) _ H locs ls (by omega) (by omega) hP hD hS hl
set_option maxHeartbeats 4000000 in
set_option maxRecDepth 100000 in
theorem cM_clear (l : Launch) (dC : Nat → ClassId) (dI : Nat → Nat → Nat) (h0 : Nat) (th le : Int32) (qn : Nat) (fs : List Value) (cA : ClassId) (f : Nat → Int32) (sz : Nat) : Met l yM_clear wM_clear ({ frames := 0, cells := 0, slots := 0, locals := 0 }) (va_Pc [.ref h0, .int 66] (nU dC dI (mN h0 th le 0 qn fs cA f) [(cA, .int)] sz)) (va_Qv (fun _ : Unit => True) (fun _ t => nT dC dI h0 th le 0 qn fs cA (va_A (mN h0 th le 0 qn fs cA f) sz) t) (va_A (mN h0 th le 0 qn fs cA f) sz)) 0 0 (va_A (mN h0 th le 0 qn fs cA f) sz) := by
  refine Met.ofW (cc := bM_clear) (maxL := 3) (ret := none) (by decide) rfl ?_
  intro p e s m args below meth c s₁ B hml hv
  obtain ⟨rfl, hsz, hP, hK, hD0⟩ := hv
  have hx := B.exec
  have hb := B.bytes
  have hr := B.returns
  have hts := atoms_spec (ws := wM_clear) B.pre
  have hk : ∀ w ∈ W0, w.before _ s = true := fun w h => hts w (List.mem_cons_of_mem _ h)
  have hown : s.vm.findClass "ImageGcdsModel" = some m.cls := findClass_of_methodNamed B.named
  have hlocks := B.notSynchronized
  subst hsz
  have hD := hD0.self (sz := s.heap.size)
  generalize va_A (mN h0 th le 0 qn fs cA f) s.heap.size = A at hD ⊢
  have hS : va_S A s.heap s.heap [] := va_S.rf
  have hl := lv_entry ([.ref h0, .int 66]) (n := 3) (Nat.le_of_ble_eq_true rfl)
  rw [lg_entry_eq]
  generalize (lg_sl ([.ref h0, .int 66]) ++ List.replicate (3 - (lg_sl ([.ref h0, .int 66])).length) Slot.unset).toArray = ls at hl ⊢
  have hl : lv_has ls 3 [(0, .ref h0), (1, .int 66)] := hl
  refine lv_iconst (v := 0) hx hb dM_clear_0 (by decide) ?_
  refine lv_istore_n (lv' := [(2, .int 0), (0, .ref h0), (1, .int 66)]) hx hb dM_clear_1 rfl hl (by decide) rfl (fun ls hl => ?_)
  exact lp_clear hx hb hk hown hK (fun f2 H locs ls hP hD hS => W.vret hx hb hr (fun t ht hW => ⟨⟨(), rfl, trivial, f2, by rw [ht]; exact hP, va_K.moved hW.alike hK, hD⟩, hS.F ht⟩) hS.2.2 dM_clear_28) 4097 0 f _ _ ls (Nat.zero_le _) (by decide) hP hD hS hl
set_option maxHeartbeats 4000000 in
set_option maxRecDepth 100000 in
theorem lp_copy {p : Program} {l : Launch} {e : Env} {R : Room} {s : State} {m : MethodId} {args : Array Value} {below : List Frame} {meth : Method} {c : Code} {Q : State → Prop} {cells slots : Nat} {dC : Nat → ClassId} {dI : Nat → Nat → Nat} {h0 : Nat} {th le : Int32} {qn : Nat} {fs : List Value} {cA : ClassId} {A : Nat → Prop} (hx : p.tables.exec = Jvm.exec) (hb : c.code = bM_copy) (hk : ∀ w ∈ W0, w.before args s = true) (hown : s.vm.findClass "ImageGcdsModel" = some m.cls) (hK : va_K (dC, dI) cls9 [(cA, .int)] s)
    (hexit : ∀ (f : Nat → Int32) (H : Heap) (locs : List Loc) (ls : Array Slot), va_P (dC, dI) cls9 (mN h0 th le 0 qn fs cA f) H → va_D A (mN h0 th le 0 qn fs cA f) → va_S A s.heap H locs → W p l e R s m args below meth c H locs cells slots Q (F0 m 39 ls [])) :
    ∀ (n i : Nat) (f : Nat → Int32) (H : Heap) (locs : List Loc) (ls : Array Slot), i ≤ 4096 → 4096 < i + n → va_P (dC, dI) cls9 (mN h0 th le 0 qn fs cA f) H → va_D A (mN h0 th le 0 qn fs cA f) → va_S A s.heap H locs → lv_has ls 4 [(3, .int (nI i)), (0, .ref h0), (1, .int 66), (2, .int 0)] → W p l e R s m args below meth c H locs cells slots Q (F0 m 2 ls []) := by
  intro n
  induction n with
  | zero => intro i f H locs ls h1 h2; exact absurd h2 (by omega)
  | succ n ih =>
    intro i f H locs ls hi hin hP hD hS hl
    refine lv_iload_n hx hb dM_copy_2 rfl (lv_at hl 0 rfl) ?_
    refine lv_sipush (v := 4096) hx hb dM_copy_3 (by decide) ?_
    refine lv_icmp_ge (tgt := 39) hx hb dM_copy_6 (by decide) (fun c1 => ?_) (fun c1 => ?_)
    · exact hexit f H locs ls hP hD hS
    · have hlt : i < 4096 := by
        rcases Nat.lt_or_ge i 4096 with q | q
        · exact q
        · exact absurd (show nI 4096 ≤ nI i from nI_le q (by omega)) c1
      refine lv_aload_n hx hb dM_copy_9 rfl (lv_at hl 1 rfl) ?_
      refine va_get (D := (dC, dI)) (ci := 2) (v := .ref qn) (C := "ImageGcdsModel") (T := TM) (N := 25) hx hb hk uM hown hK hP 0 rfl rfl 3 (by decide) (hk _ k102) (fun _ h9 => h9) rfl dM_copy_10 ?_
      refine lv_sipush (v := 4096) hx hb dM_copy_13 (by decide) ?_
      refine lv_iload_n hx hb dM_copy_16 rfl (lv_at hl 3 rfl) ?_
      refine lv_imul hx hb dM_copy_17 ?_
      refine lv_iload_n hx hb dM_copy_18 rfl (lv_at hl 0 rfl) ?_
      refine lv_iadd hx hb dM_copy_19 ?_
      refine lv_topi (fun x1 ex1 => ?_)
      have gx1 : x1 = nI (0 + i) := by
        rw [ex1, show ((4096 : Int32) * 0) = nI 0 by decide, nI_add]
      subst gx1
      have nx1 : vp_in (nI (0 + i)) 290816 := vp_in_nI (by omega) (by decide)
      refine lv_aload_n hx hb dM_copy_20 rfl (lv_at hl 1 rfl) ?_
      refine va_get (D := (dC, dI)) (ci := 2) (v := .ref qn) (C := "ImageGcdsModel") (T := TM) (N := 25) hx hb hk uM hown hK hP 0 rfl rfl 3 (by decide) (hk _ k102) (fun _ h9 => h9) rfl dM_copy_21 ?_
      refine lv_sipush (v := 4096) hx hb dM_copy_24 (by decide) ?_
      refine lv_iload_n hx hb dM_copy_27 rfl (lv_at hl 2 rfl) ?_
      refine lv_imul hx hb dM_copy_28 ?_
      refine lv_iload_n hx hb dM_copy_29 rfl (lv_at hl 0 rfl) ?_
      refine lv_iadd hx hb dM_copy_30 ?_
      refine lv_topi (fun x2 ex2 => ?_)
      have gx2 : x2 = nI (270336 + i) := by
        rw [ex2, show ((4096 : Int32) * 66) = nI 270336 by decide, nI_add]
      subst gx2
      have nx2 : vp_in (nI (270336 + i)) 290816 := vp_in_nI (by omega) (by decide)
      refine va_iald hx hb hK hP 1 0 rfl rfl nx2 dM_copy_31 ?_
      refine lv_topi (fun z ez => ?_)
      refine va_iast hx hb hK hP hD hS 1 0 rfl rfl nx1 dM_copy_32 (fun H locs hP hD hS => ?_)
      refine lv_iinc (v := nI (i + 1)) (lv' := [(3, .int (nI (i + 1))), (0, .ref h0), (1, .int 66), (2, .int 0)]) hx hb dM_copy_33 hl (k := 0) rfl (nI_succ i).symm (by decide) rfl (fun ls hl => ?_)
      refine lv_goto (tgt := 2) hx hb dM_copy_36 (by decide) ?_
      exact ih (i + 1) _ H locs ls (by omega) (by omega) hP hD hS hl
set_option maxHeartbeats 4000000 in
set_option maxRecDepth 100000 in
theorem cM_copy (l : Launch) (dC : Nat → ClassId) (dI : Nat → Nat → Nat) (h0 : Nat) (th le : Int32) (qn : Nat) (fs : List Value) (cA : ClassId) (f : Nat → Int32) (sz : Nat) : Met l yM_copy wM_copy ({ frames := 0, cells := 0, slots := 0, locals := 0 }) (va_Pc [.ref h0, .int 66, .int 0] (nU dC dI (mN h0 th le 0 qn fs cA f) [(cA, .int)] sz)) (va_Qv (fun _ : Unit => True) (fun _ t => nT dC dI h0 th le 0 qn fs cA (va_A (mN h0 th le 0 qn fs cA f) sz) t) (va_A (mN h0 th le 0 qn fs cA f) sz)) 0 0 (va_A (mN h0 th le 0 qn fs cA f) sz) := by
  refine Met.ofW (cc := bM_copy) (maxL := 4) (ret := none) (by decide) rfl ?_
  intro p e s m args below meth c s₁ B hml hv
  obtain ⟨rfl, hsz, hP, hK, hD0⟩ := hv
  have hx := B.exec
  have hb := B.bytes
  have hr := B.returns
  have hts := atoms_spec (ws := wM_copy) B.pre
  have hk : ∀ w ∈ W0, w.before _ s = true := fun w h => hts w (List.mem_cons_of_mem _ h)
  have hown : s.vm.findClass "ImageGcdsModel" = some m.cls := findClass_of_methodNamed B.named
  have hlocks := B.notSynchronized
  subst hsz
  have hD := hD0.self (sz := s.heap.size)
  generalize va_A (mN h0 th le 0 qn fs cA f) s.heap.size = A at hD ⊢
  have hS : va_S A s.heap s.heap [] := va_S.rf
  have hl := lv_entry ([.ref h0, .int 66, .int 0]) (n := 4) (Nat.le_of_ble_eq_true rfl)
  rw [lg_entry_eq]
  generalize (lg_sl ([.ref h0, .int 66, .int 0]) ++ List.replicate (4 - (lg_sl ([.ref h0, .int 66, .int 0])).length) Slot.unset).toArray = ls at hl ⊢
  have hl : lv_has ls 4 [(0, .ref h0), (1, .int 66), (2, .int 0)] := hl
  refine lv_iconst (v := 0) hx hb dM_copy_0 (by decide) ?_
  refine lv_istore_n (lv' := [(3, .int 0), (0, .ref h0), (1, .int 66), (2, .int 0)]) hx hb dM_copy_1 rfl hl (by decide) rfl (fun ls hl => ?_)
  exact lp_copy hx hb hk hown hK (fun f2 H locs ls hP hD hS => W.vret hx hb hr (fun t ht hW => ⟨⟨(), rfl, trivial, f2, by rw [ht]; exact hP, va_K.moved hW.alike hK, hD⟩, hS.F ht⟩) hS.2.2 dM_copy_39) 4097 0 f _ _ ls (Nat.zero_le _) (by decide) hP hD hS hl
