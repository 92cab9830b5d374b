abbrev mW (h0 : Nat) (th le co : Int32) (fs : List Value) : va_W := [(h0, .inr (2, .int th :: .int le :: .int co :: fs))]
def mU (dC : Nat → ClassId) (dI : Nat → Nat → Nat) (h0 : Nat) (th le : Int32) (fs : List Value) (U : State) : Prop := va_P (dC, dI) cls9 (mW h0 th le 0 fs) U.heap ∧ va_K (dC, dI) cls9 [] U
theorem mB {dC : Nat → ClassId} {dI : Nat → Nat → Nat} {h0 : Nat} {th le : Int32} {fs av : List Value} : FrameBlind (va_Pc av (mU dC dI h0 th le fs)) := fun a U g mk q => ⟨q.1, q.2.1, va_K.moved (u := U) (U := U.calling g mk a) (Vm.Alike.refl U.vm) q.2.2⟩
theorem mP {dC : Nat → ClassId} {dI : Nat → Nat → Nat} {h0 : Nat} {th le : Int32} {fs av : List Value} {s : State} {H : Heap} (hP : va_P (dC, dI) cls9 (mW h0 th le 0 fs) H) (hK : va_K (dC, dI) cls9 [] s) : ∀ U : State, U.heap = H → s.WarmedH U.vm → va_Pc av (mU dC dI h0 th le fs) av.toArray U := fun U hU hW => ⟨rfl, by rw [hU]; exact hP, va_K.moved hW.alike hK⟩
theorem mD {h0 : Nat} {x : va_E} : va_D (fun q : Nat => q = h0) [(h0, x)] := ⟨fun i j p q hi hj _ => by
    have h1 : i < 1 := (List.getElem?_eq_some_iff.mp hi).1
    have h2 : j < 1 := (List.getElem?_eq_some_iff.mp hj).1
    omega, fun k q hk => by
    have h1 : k < 1 := (List.getElem?_eq_some_iff.mp hk).1
    have h2 : k = 0 := by omega
    subst h2
    cases hk
    rfl⟩
set_option maxHeartbeats 4000000 in
set_option maxRecDepth 100000 in
theorem cM_number (l : Launch) (p0 : Int64) : Met l yM_number wM_number ({ frames := 0, cells := 0, slots := 0, locals := 0 }) (fun v _ => v = ([.long p0] : List Value).toArray) (vp_Si (fun r => True)) 0 0 (fun _ => False) := by
  refine Met.ofW (cc := bM_number) (maxL := 3) (ret := (some .int)) (by decide) rfl ?_
  intro p e s m args below meth c s₁ B hml hv
  obtain rfl := hv
  have hx := B.exec
  have hb := B.bytes
  have hr := B.returns
  have hts := atoms_spec (ws := wM_number) B.pre
  have hk : ∀ w ∈ W0, w.before _ s = true := fun w h => hts w (List.mem_cons_of_mem _ h)
  have hown : s.vm.findClass "ImageGcdsModel" = some m.cls := findClass_of_methodNamed B.named
  have hlocks := B.notSynchronized
  have hl := lv_entry ([.long p0]) (n := 3) (Nat.le_of_ble_eq_true rfl)
  rw [lg_entry_eq]
  generalize (lg_sl ([.long p0]) ++ List.replicate (3 - (lg_sl ([.long p0])).length) Slot.unset).toArray = ls at hl ⊢
  have hl : lv_has ls 3 [(0, .long p0)] := hl
  refine lv_lload_n hx hb dM_number_0 rfl (lv_at hl 0 rfl) ?_
  refine lv_ldc2 (v := 32003) hx hb hown (hk _ k65) dM_number_1 ?_
  refine lv_lrem hx hb dM_number_4 (by decide) ?_
  refine lv_topl (fun v3 ev3 => ?_)
  refine lv_l2i hx hb dM_number_5 rfl ?_
  refine lv_topi (fun v4 ev4 => ?_)
  refine lv_istore_n (lv' := [(2, .int v4), (0, .long p0)]) hx hb dM_number_6 rfl hl (by decide) rfl (fun ls hl => ?_)
  refine lv_iload_n hx hb dM_number_7 rfl (lv_at hl 0 rfl) ?_
  refine lv_if_ge (tgt := 19) hx hb dM_number_8 (by decide) (fun c5 => ?_) (fun c5 => ?_)
  · skip
    refine lv_iload_n hx hb dM_number_19 rfl (lv_at hl 0 rfl) ?_
    exact W.iret (v := v4) hx hb hr (fun t ht hW => ⟨_, rfl, trivial, ht⟩) (fun q h => nomatch h) dM_number_20
  · skip
    refine lv_iload_n hx hb dM_number_11 rfl (lv_at hl 0 rfl) ?_
    refine lv_sipush (v := 32003) hx hb dM_number_12 (by decide) ?_
    refine lv_iadd hx hb dM_number_15 ?_
    refine lv_topi (fun v6 ev6 => ?_)
    refine lv_goto (tgt := 20) hx hb dM_number_16 (by decide) ?_
    exact W.iret (v := v6) hx hb hr (fun t ht hW => ⟨_, rfl, trivial, ht⟩) (fun q h => nomatch h) dM_number_20
set_option maxHeartbeats 4000000 in
set_option maxRecDepth 100000 in
theorem cM_isPoly (l : Launch) (dC : Nat → ClassId) (dI : Nat → Nat → Nat) (h0 : Nat) (th le : Int32) (fs : List Value) (p0 : Int32) : Met l yM_isPoly wM_isPoly ({ frames := 0, cells := 0, slots := 0, locals := 0 }) (va_Pc [.ref h0, .int p0] (mU dC dI h0 th le fs)) (vp_Si (fun r => r = 0)) 0 0 (fun _ => False) := by
  refine Met.ofW (cc := bM_isPoly) (maxL := 2) (ret := (some .boolean)) (by decide) rfl ?_
  intro p e s m args below meth c s₁ B hml hv
  obtain ⟨rfl, hP, hK⟩ := hv
  have hx := B.exec
  have hb := B.bytes
  have hr := B.returns
  have hts := atoms_spec (ws := wM_isPoly) B.pre
  have hk : ∀ w ∈ W0, w.before _ s = true := fun w h => hts w (List.mem_cons_of_mem _ h)
  have hown : s.vm.findClass "ImageGcdsModel" = some m.cls := findClass_of_methodNamed B.named
  have hlocks := B.notSynchronized
  have hl := lv_entry ([.ref h0, .int p0]) (n := 2) (Nat.le_of_ble_eq_true rfl)
  rw [lg_entry_eq]
  generalize (lg_sl ([.ref h0, .int p0]) ++ List.replicate (2 - (lg_sl ([.ref h0, .int p0])).length) Slot.unset).toArray = ls at hl ⊢
  have hl : lv_has ls 2 [(0, .ref h0), (1, .int p0)] := hl
  refine lv_iload_n hx hb dM_isPoly_0 rfl (lv_at hl 1 rfl) ?_
  refine lv_if_lt (tgt := 16) hx hb dM_isPoly_1 (by decide) (fun c7 => ?_) (fun c7 => ?_)
  · skip
    refine lv_iconst (v := 0) hx hb dM_isPoly_16 (by decide) ?_
    exact W.zret (v := 0) hx hb hr rfl (fun t ht hW => ⟨_, rfl, rfl, ht⟩) (fun q h => nomatch h) dM_isPoly_17
  · skip
    refine lv_iload_n hx hb dM_isPoly_4 rfl (lv_at hl 1 rfl) ?_
    refine lv_aload_n hx hb dM_isPoly_5 rfl (lv_at hl 0 rfl) ?_
    refine va_get (D := (dC, dI)) (ci := 2) (v := .int 0) (C := "ImageGcdsModel") (T := TM) (N := 25) hx hb hk uM hown hK hP 0 rfl rfl 2 (by decide) (hk _ k66) (fun _ h9 => h9) rfl dM_isPoly_6 ?_
    refine lv_icmp_ge (tgt := 16) hx hb dM_isPoly_9 (by decide) (fun c8 => ?_) (fun c8 => ?_)
    · skip
      refine lv_iconst (v := 0) hx hb dM_isPoly_16 (by decide) ?_
      exact W.zret (v := 0) hx hb hr rfl (fun t ht hW => ⟨_, rfl, rfl, ht⟩) (fun q h => nomatch h) dM_isPoly_17
    · skip
      exact absurd (Int32.not_lt.mp c7) c8
set_option maxHeartbeats 4000000 in
set_option maxRecDepth 100000 in
theorem cM_isFull (l : Launch) (dC : Nat → ClassId) (dI : Nat → Nat → Nat) (h0 : Nat) (th le : Int32) (fs : List Value) : Met l yM_isFull wM_isFull ({ frames := 0, cells := 0, slots := 0, locals := 0 }) (va_Pc [.ref h0] (mU dC dI h0 th le fs)) (vp_Si (fun r => r = 0)) 0 0 (fun _ => False) := by
  refine Met.ofW (cc := bM_isFull) (maxL := 1) (ret := (some .boolean)) (by decide) rfl ?_
  intro p e s m args below meth c s₁ B hml hv
  obtain ⟨rfl, hP, hK⟩ := hv
  have hx := B.exec
  have hb := B.bytes
  have hr := B.returns
  have hts := atoms_spec (ws := wM_isFull) B.pre
  have hk : ∀ w ∈ W0, w.before _ s = true := fun w h => hts w (List.mem_cons_of_mem _ h)
  have hown : s.vm.findClass "ImageGcdsModel" = some m.cls := findClass_of_methodNamed B.named
  have hlocks := B.notSynchronized
  have hl := lv_entry ([.ref h0]) (n := 1) (Nat.le_of_ble_eq_true rfl)
  rw [lg_entry_eq]
  generalize (lg_sl ([.ref h0]) ++ List.replicate (1 - (lg_sl ([.ref h0])).length) Slot.unset).toArray = ls at hl ⊢
  have hl : lv_has ls 1 [(0, .ref h0)] := hl
  refine lv_aload_n hx hb dM_isFull_0 rfl (lv_at hl 0 rfl) ?_
  refine va_get (D := (dC, dI)) (ci := 2) (v := .int 0) (C := "ImageGcdsModel") (T := TM) (N := 25) hx hb hk uM hown hK hP 0 rfl rfl 2 (by decide) (hk _ k66) (fun _ h9 => h9) rfl dM_isFull_1 ?_
  refine lv_bipush (v := 60) hx hb dM_isFull_4 (by decide) ?_
  refine lv_icmp_ne (tgt := 13) hx hb dM_isFull_6 (by decide) (fun c9 => ?_) (fun c9 => ?_)
  · skip
    refine lv_iconst (v := 0) hx hb dM_isFull_13 (by decide) ?_
    exact W.zret (v := 0) hx hb hr rfl (fun t ht hW => ⟨_, rfl, rfl, ht⟩) (fun q h => nomatch h) dM_isFull_14
  · skip
    exact absurd c9 (by decide)
set_option maxHeartbeats 4000000 in
set_option maxRecDepth 100000 in
theorem cM_isLetter (l : Launch) (dC : Nat → ClassId) (dI : Nat → Nat → Nat) (h0 : Nat) (th le : Int32) (fs : List Value) (p0 : Int32) : Met l yM_isLetter wM_isLetter ({ frames := 0, cells := 0, slots := 0, locals := 0 }) (va_Pc [.ref h0, .int p0] (mU dC dI h0 th le fs)) (vp_Si (fun r => True)) 0 0 (fun _ => False) := by
  refine Met.ofW (cc := bM_isLetter) (maxL := 2) (ret := (some .boolean)) (by decide) rfl ?_
  intro p e s m args below meth c s₁ B hml hv
  obtain ⟨rfl, hP, hK⟩ := hv
  have hx := B.exec
  have hb := B.bytes
  have hr := B.returns
  have hts := atoms_spec (ws := wM_isLetter) B.pre
  have hk : ∀ w ∈ W0, w.before _ s = true := fun w h => hts w (List.mem_cons_of_mem _ h)
  have hown : s.vm.findClass "ImageGcdsModel" = some m.cls := findClass_of_methodNamed B.named
  have hlocks := B.notSynchronized
  have hl := lv_entry ([.ref h0, .int p0]) (n := 2) (Nat.le_of_ble_eq_true rfl)
  rw [lg_entry_eq]
  generalize (lg_sl ([.ref h0, .int p0]) ++ List.replicate (2 - (lg_sl ([.ref h0, .int p0])).length) Slot.unset).toArray = ls at hl ⊢
  have hl : lv_has ls 2 [(0, .ref h0), (1, .int p0)] := hl
  refine lv_iload_n hx hb dM_isLetter_0 rfl (lv_at hl 1 rfl) ?_
  refine lv_if_lt (tgt := 16) hx hb dM_isLetter_1 (by decide) (fun c10 => ?_) (fun c10 => ?_)
  · skip
    refine lv_iconst (v := 0) hx hb dM_isLetter_16 (by decide) ?_
    exact W.zret (v := 0) hx hb hr rfl (fun t ht hW => ⟨_, rfl, trivial, ht⟩) (fun q h => nomatch h) dM_isLetter_17
  · skip
    refine lv_iload_n hx hb dM_isLetter_4 rfl (lv_at hl 1 rfl) ?_
    refine lv_aload_n hx hb dM_isLetter_5 rfl (lv_at hl 0 rfl) ?_
    refine va_get (D := (dC, dI)) (ci := 2) (v := .int le) (C := "ImageGcdsModel") (T := TM) (N := 25) hx hb hk uM hown hK hP 0 rfl rfl 1 (by decide) (hk _ k67) (fun _ h9 => h9) rfl dM_isLetter_6 ?_
    refine lv_icmp_ge (tgt := 16) hx hb dM_isLetter_9 (by decide) (fun c11 => ?_) (fun c11 => ?_)
    · skip
      refine lv_iconst (v := 0) hx hb dM_isLetter_16 (by decide) ?_
      exact W.zret (v := 0) hx hb hr rfl (fun t ht hW => ⟨_, rfl, trivial, ht⟩) (fun q h => nomatch h) dM_isLetter_17
    · skip
      refine lv_iconst (v := 1) hx hb dM_isLetter_12 (by decide) ?_
      refine lv_goto (tgt := 17) hx hb dM_isLetter_13 (by decide) ?_
      exact W.zret (v := 1) hx hb hr rfl (fun t ht hW => ⟨_, rfl, trivial, ht⟩) (fun q h => nomatch h) dM_isLetter_17
set_option maxHeartbeats 4000000 in
set_option maxRecDepth 100000 in
theorem cM_areNot (l : Launch) (dC : Nat → ClassId) (dI : Nat → Nat → Nat) (h0 : Nat) (th le : Int32) (fs : List Value) (p0 : Int32) (p1 : Int32) : Met l yM_areNot wM_areNot ({ frames := 1, cells := 0, slots := 0, locals := 30 }) (va_Pc [.ref h0, .int p0, .int p1] (mU dC dI h0 th le fs)) (vp_Si (fun r => r = 1)) 0 0 (fun _ => False) := by
  refine Met.ofW (cc := bM_areNot) (maxL := 3) (ret := (some .boolean)) (by decide) rfl ?_
  intro p e s m args below meth c s₁ B hml hv
  obtain ⟨rfl, hP, hK⟩ := hv
  have hx := B.exec
  have hb := B.bytes
  have hr := B.returns
  have hts := atoms_spec (ws := wM_areNot) B.pre
  have hk : ∀ w ∈ W0, w.before _ s = true := fun w h => hts w (List.mem_cons_of_mem _ h)
  have hown : s.vm.findClass "ImageGcdsModel" = some m.cls := findClass_of_methodNamed B.named
  have hlocks := B.notSynchronized
  have hl := lv_entry ([.ref h0, .int p0, .int p1]) (n := 3) (Nat.le_of_ble_eq_true rfl)
  rw [lg_entry_eq]
  generalize (lg_sl ([.ref h0, .int p0, .int p1]) ++ List.replicate (3 - (lg_sl ([.ref h0, .int p0, .int p1])).length) Slot.unset).toArray = ls at hl ⊢
  have hl : lv_has ls 3 [(0, .ref h0), (1, .int p0), (2, .int p1)] := hl
  refine lv_aload_n hx hb dM_areNot_0 rfl (lv_at hl 0 rfl) ?_
  refine lv_iload_n hx hb dM_areNot_1 rfl (lv_at hl 1 rfl) ?_
  refine vp_callSi (W.runV (As := [.int p0]) (rest := []) ⟨hx, hb, hml, hown, hk⟩ (cM_isPoly l dC dI h0 th le fs p0) (cwV 1 hk (gV k68 k69 k70 k71 k72) rfl rfl rfl (by decide +kernel) ⟨Nat.le_of_ble_eq_true rfl, Nat.le_of_ble_eq_true rfl⟩) ⟨mB, va_recv hK hP (ci := 2) (q0 := 0) rfl rfl, mP hP hK⟩ rfl rfl hl.1 rfl (lv_room (Nat.le_of_ble_eq_true rfl)) dM_areNot_2 ⟨Nat.le_of_ble_eq_true rfl, Nat.le_of_ble_eq_true rfl⟩) (fun r12 hw => ?_)
  subst hw
  refine lv_if_eq (tgt := 16) hx hb dM_areNot_5 (by decide) (fun c13 => ?_) (fun c13 => ?_)
  · skip
    refine lv_iconst (v := 1) hx hb dM_areNot_16 (by decide) ?_
    refine lv_goto (tgt := 21) hx hb dM_areNot_17 (by decide) ?_
    exact W.zret (v := 1) hx hb hr rfl (fun t ht hW => ⟨_, rfl, rfl, ht⟩) (fun q h => nomatch h) dM_areNot_21
  · skip
    exact absurd c13 (by decide)
set_option maxHeartbeats 4000000 in
set_option maxRecDepth 100000 in
theorem cM_thrown (l : Launch) (dC : Nat → ClassId) (dI : Nat → Nat → Nat) (h0 : Nat) (th le : Int32) (fs : List Value) : Met l yM_thrown wM_thrown ({ frames := 0, cells := 0, slots := 0, locals := 0 }) (va_Pc [.ref h0] (mU dC dI h0 th le fs)) (vp_Si (fun r => r = th)) 0 0 (fun _ => False) := by
  refine Met.ofW (cc := bM_thrown) (maxL := 1) (ret := (some .int)) (by decide) rfl ?_
  intro p e s m args below meth c s₁ B hml hv
  obtain ⟨rfl, hP, hK⟩ := hv
  have hx := B.exec
  have hb := B.bytes
  have hr := B.returns
  have hts := atoms_spec (ws := wM_thrown) B.pre
  have hk : ∀ w ∈ W0, w.before _ s = true := fun w h => hts w (List.mem_cons_of_mem _ h)
  have hown : s.vm.findClass "ImageGcdsModel" = some m.cls := findClass_of_methodNamed B.named
  have hlocks := B.notSynchronized
  have hl := lv_entry ([.ref h0]) (n := 1) (Nat.le_of_ble_eq_true rfl)
  rw [lg_entry_eq]
  generalize (lg_sl ([.ref h0]) ++ List.replicate (1 - (lg_sl ([.ref h0])).length) Slot.unset).toArray = ls at hl ⊢
  have hl : lv_has ls 1 [(0, .ref h0)] := hl
  refine lv_aload_n hx hb dM_thrown_0 rfl (lv_at hl 0 rfl) ?_
  refine va_get (D := (dC, dI)) (ci := 2) (v := .int th) (C := "ImageGcdsModel") (T := TM) (N := 25) hx hb hk uM hown hK hP 0 rfl rfl 0 (by decide) (hk _ k73) (fun _ h9 => h9) rfl dM_thrown_1 ?_
  exact W.iret (v := th) hx hb hr (fun t ht hW => ⟨_, rfl, rfl, ht⟩) (fun q h => nomatch h) dM_thrown_4
set_option maxHeartbeats 4000000 in
set_option maxRecDepth 100000 in
theorem cM_fails1 (l : Launch) (dC : Nat → ClassId) (dI : Nat → Nat → Nat) (h0 : Nat) (th le : Int32) (fs : List Value) (x y : Int32) : Met l yM_fails wM_fails ({ frames := 0, cells := 0, slots := 0, locals := 0 }) (va_Pc [.ref h0, .int 1, .int x, .int y] (mU dC dI h0 th le fs)) (va_Qi (fun (r : Int32) (_ : Unit) => r = 1) (fun _ t => mU dC dI h0 1 le fs t) (fun q => q = h0)) 0 0 (fun q => q = h0) := by
  refine Met.ofW (cc := bM_fails) (maxL := 4) (ret := (some .boolean)) (by decide) rfl ?_
  intro p e s m args below meth c s₁ B hml hv
  obtain ⟨rfl, hP, hK⟩ := hv
  have hx := B.exec
  have hb := B.bytes
  have hr := B.returns
  have hts := atoms_spec (ws := wM_fails) B.pre
  have hk : ∀ w ∈ W0, w.before _ s = true := fun w h => hts w (List.mem_cons_of_mem _ h)
  have hown : s.vm.findClass "ImageGcdsModel" = some m.cls := findClass_of_methodNamed B.named
  have hlocks := B.notSynchronized
  have hD : va_D (fun q : Nat => q = h0) (mW h0 th le 0 fs) := mD
  have hS : va_S (fun q : Nat => q = h0) s.heap s.heap [] := va_S.rf
  have hl := lv_entry ([.ref h0, .int 1, .int x, .int y]) (n := 4) (Nat.le_of_ble_eq_true rfl)
  rw [lg_entry_eq]
  generalize (lg_sl ([.ref h0, .int 1, .int x, .int y]) ++ List.replicate (4 - (lg_sl ([.ref h0, .int 1, .int x, .int y])).length) Slot.unset).toArray = ls at hl ⊢
  have hl : lv_has ls 4 [(0, .ref h0), (1, .int 1), (2, .int x), (3, .int y)] := hl
  refine lv_aload_n hx hb dM_fails_0 rfl (lv_at hl 0 rfl) ?_
  refine lv_iload_n hx hb dM_fails_1 rfl (lv_at hl 1 rfl) ?_
  refine lv_if_eq (tgt := 9) hx hb dM_fails_2 (by decide) (fun c14 => ?_) (fun c14 => ?_)
  · skip
    exact absurd c14 (by decide)
  · skip
    refine lv_iconst (v := 1) hx hb dM_fails_5 (by decide) ?_
    refine lv_goto (tgt := 26) hx hb dM_fails_6 (by decide) ?_
    refine va_put (D := (dC, dI)) (ci := 2) (v := .int 1) (ty := .int) (C := "ImageGcdsModel") (T := TM) (N := 25) hx hb hk uM tM tM_ok nM hown hK hP hD hS 0 rfl rfl 0 (by decide) (hk _ k73) (fun _ h9 => h9) rfl (by decide +kernel) rfl rfl (by simp) dM_fails_26 (fun H locs hP hD hS => ?_)
    have hP : va_P (dC, dI) cls9 (mW h0 1 le 0 fs) H := hP
    have hD : va_D (fun q : Nat => q = h0) (mW h0 1 le 0 fs) := hD
    refine lv_aload_n hx hb dM_fails_29 rfl (lv_at hl 0 rfl) ?_
    refine va_get (D := (dC, dI)) (ci := 2) (v := .int 1) (C := "ImageGcdsModel") (T := TM) (N := 25) hx hb hk uM hown hK hP 0 rfl rfl 0 (by decide) (hk _ k73) (fun _ h9 => h9) rfl dM_fails_30 ?_
    refine lv_if_le (tgt := 40) hx hb dM_fails_33 (by decide) (fun c15 => ?_) (fun c15 => ?_)
    · skip
      exact absurd c15 (by decide)
    · skip
      refine lv_iconst (v := 1) hx hb dM_fails_36 (by decide) ?_
      refine lv_goto (tgt := 41) hx hb dM_fails_37 (by decide) ?_
      exact W.zret (v := 1) hx hb hr rfl (fun t ht hW => ⟨⟨1, (), rfl, rfl, by rw [ht]; exact hP, va_K.moved hW.alike hK⟩, hS.F ht⟩) hS.2.2 dM_fails_41
set_option maxHeartbeats 4000000 in
set_option maxRecDepth 100000 in
theorem cM_fails0 (l : Launch) (dC : Nat → ClassId) (dI : Nat → Nat → Nat) (h0 : Nat) (th le : Int32) (fs : List Value) : Met l yM_fails wM_fails ({ frames := 0, cells := 0, slots := 0, locals := 0 }) (va_Pc [.ref h0, .int 0, .int 0, .int 0] (mU dC dI h0 th le fs)) (va_Qi (fun (r : Int32) (_ : Unit) => r = 0) (fun _ t => mU dC dI h0 0 le fs t) (fun q => q = h0)) 0 0 (fun q => q = h0) := by
  refine Met.ofW (cc := bM_fails) (maxL := 4) (ret := (some .boolean)) (by decide) rfl ?_
  intro p e s m args below meth c s₁ B hml hv
  obtain ⟨rfl, hP, hK⟩ := hv
  have hx := B.exec
  have hb := B.bytes
  have hr := B.returns
  have hts := atoms_spec (ws := wM_fails) B.pre
  have hk : ∀ w ∈ W0, w.before _ s = true := fun w h => hts w (List.mem_cons_of_mem _ h)
  have hown : s.vm.findClass "ImageGcdsModel" = some m.cls := findClass_of_methodNamed B.named
  have hlocks := B.notSynchronized
  have hD : va_D (fun q : Nat => q = h0) (mW h0 th le 0 fs) := mD
  have hS : va_S (fun q : Nat => q = h0) s.heap s.heap [] := va_S.rf
  have hl := lv_entry ([.ref h0, .int 0, .int 0, .int 0]) (n := 4) (Nat.le_of_ble_eq_true rfl)
  rw [lg_entry_eq]
  generalize (lg_sl ([.ref h0, .int 0, .int 0, .int 0]) ++ List.replicate (4 - (lg_sl ([.ref h0, .int 0, .int 0, .int 0])).length) Slot.unset).toArray = ls at hl ⊢
  have hl : lv_has ls 4 [(0, .ref h0), (1, .int 0), (2, .int 0), (3, .int 0)] := hl
  refine lv_aload_n hx hb dM_fails_0 rfl (lv_at hl 0 rfl) ?_
  refine lv_iload_n hx hb dM_fails_1 rfl (lv_at hl 1 rfl) ?_
  refine lv_if_eq (tgt := 9) hx hb dM_fails_2 (by decide) (fun c16 => ?_) (fun c16 => ?_)
  · skip
    refine lv_iload_n hx hb dM_fails_9 rfl (lv_at hl 2 rfl) ?_
    refine lv_if_eq (tgt := 17) hx hb dM_fails_10 (by decide) (fun c17 => ?_) (fun c17 => ?_)
    · skip
      refine lv_iload_n hx hb dM_fails_17 rfl (lv_at hl 3 rfl) ?_
      refine lv_if_eq (tgt := 25) hx hb dM_fails_18 (by decide) (fun c18 => ?_) (fun c18 => ?_)
      · skip
        refine lv_iconst (v := 0) hx hb dM_fails_25 (by decide) ?_
        refine va_put (D := (dC, dI)) (ci := 2) (v := .int 0) (ty := .int) (C := "ImageGcdsModel") (T := TM) (N := 25) hx hb hk uM tM tM_ok nM hown hK hP hD hS 0 rfl rfl 0 (by decide) (hk _ k73) (fun _ h9 => h9) rfl (by decide +kernel) rfl rfl (by simp) dM_fails_26 (fun H locs hP hD hS => ?_)
        have hP : va_P (dC, dI) cls9 (mW h0 0 le 0 fs) H := hP
        have hD : va_D (fun q : Nat => q = h0) (mW h0 0 le 0 fs) := hD
        refine lv_aload_n hx hb dM_fails_29 rfl (lv_at hl 0 rfl) ?_
        refine va_get (D := (dC, dI)) (ci := 2) (v := .int 0) (C := "ImageGcdsModel") (T := TM) (N := 25) hx hb hk uM hown hK hP 0 rfl rfl 0 (by decide) (hk _ k73) (fun _ h9 => h9) rfl dM_fails_30 ?_
        refine lv_if_le (tgt := 40) hx hb dM_fails_33 (by decide) (fun c19 => ?_) (fun c19 => ?_)
        · skip
          refine lv_iconst (v := 0) hx hb dM_fails_40 (by decide) ?_
          exact W.zret (v := 0) hx hb hr rfl (fun t ht hW => ⟨⟨0, (), rfl, rfl, by rw [ht]; exact hP, va_K.moved hW.alike hK⟩, hS.F ht⟩) hS.2.2 dM_fails_41
        · skip
          exact absurd c19 (by decide)
      · skip
        exact absurd c18 (by decide)
    · skip
      exact absurd c17 (by decide)
  · skip
    exact absurd c16 (by decide)
set_option maxHeartbeats 4000000 in
set_option maxRecDepth 100000 in
theorem cM_count (l : Launch) (dC : Nat → ClassId) (dI : Nat → Nat → Nat) (h0 : Nat) (th le : Int32) (fs : List Value) : Met l yM_count wM_count ({ frames := 0, cells := 0, slots := 0, locals := 0 }) (va_Pc [.ref h0] (mU dC dI h0 th le fs)) (va_Qi (fun (r : Int32) (_ : Unit) => r = 0) (fun _ t => mU dC dI h0 0 le fs t) (fun q => q = h0)) 0 0 (fun q => q = h0) := by
  refine Met.ofW (cc := bM_count) (maxL := 1) (ret := (some .int)) (by decide) rfl ?_
  intro p e s m args below meth c s₁ B hml hv
  obtain ⟨rfl, hP, hK⟩ := hv
  have hx := B.exec
  have hb := B.bytes
  have hr := B.returns
  have hts := atoms_spec (ws := wM_count) B.pre
  have hk : ∀ w ∈ W0, w.before _ s = true := fun w h => hts w (List.mem_cons_of_mem _ h)
  have hown : s.vm.findClass "ImageGcdsModel" = some m.cls := findClass_of_methodNamed B.named
  have hlocks := B.notSynchronized
  have hD : va_D (fun q : Nat => q = h0) (mW h0 th le 0 fs) := mD
  have hS : va_S (fun q : Nat => q = h0) s.heap s.heap [] := va_S.rf
  have hl := lv_entry ([.ref h0]) (n := 1) (Nat.le_of_ble_eq_true rfl)
  rw [lg_entry_eq]
  generalize (lg_sl ([.ref h0]) ++ List.replicate (1 - (lg_sl ([.ref h0])).length) Slot.unset).toArray = ls at hl ⊢
  have hl : lv_has ls 1 [(0, .ref h0)] := hl
  refine lv_aload_n hx hb dM_count_0 rfl (lv_at hl 0 rfl) ?_
  refine lv_iconst (v := 0) hx hb dM_count_1 (by decide) ?_
  refine va_put (D := (dC, dI)) (ci := 2) (v := .int 0) (ty := .int) (C := "ImageGcdsModel") (T := TM) (N := 25) hx hb hk uM tM tM_ok nM hown hK hP hD hS 0 rfl rfl 0 (by decide) (hk _ k73) (fun _ h9 => h9) rfl (by decide +kernel) rfl rfl (by simp) dM_count_2 (fun H locs hP hD hS => ?_)
  have hP : va_P (dC, dI) cls9 (mW h0 0 le 0 fs) H := hP
  have hD : va_D (fun q : Nat => q = h0) (mW h0 0 le 0 fs) := hD
  refine lv_aload_n hx hb dM_count_5 rfl (lv_at hl 0 rfl) ?_
  refine va_get (D := (dC, dI)) (ci := 2) (v := .int 0) (C := "ImageGcdsModel") (T := TM) (N := 25) hx hb hk uM hown hK hP 0 rfl rfl 2 (by decide) (hk _ k66) (fun _ h9 => h9) rfl dM_count_6 ?_
  exact W.iret (v := 0) hx hb hr (fun t ht hW => ⟨⟨0, (), rfl, rfl, by rw [ht]; exact hP, va_K.moved hW.alike hK⟩, hS.F ht⟩) hS.2.2 dM_count_9
