set_option maxHeartbeats 4000000 in
set_option maxRecDepth 100000 in
theorem cM_term (l : Launch) (dC : Nat → ClassId) (dI : Nat → Nat → Nat) (h0 : Nat) (th le : Int32) (fs : List Value) (p0 : Int32) (p1 : Int64) (p2 : Int64) (p3 : Int32) : Met l yM_term wM_term ({ frames := 2, cells := 0, slots := 0, locals := 60 }) (va_Pc [.ref h0, .int p0, .long p1, .long p2, .int p3] (mU dC dI h0 th le fs)) (va_Qi (fun (r : Int32) (_ : Unit) => r = 0) (fun _ t => mU dC dI h0 1 le fs t) (fun q => q = h0)) 0 0 (fun q => q = h0) := by
  refine Met.ofW (cc := bM_term) (maxL := 9) (ret := (some .boolean)) (by decide) rfl ?_
  intro p e s m args below meth c s₁ B hml hv
  obtain ⟨rfl, hP, hK⟩ := hv
  have hx := B.exec
  have hb := B.bytes
  have hr := B.returns
  have hts := atoms_spec (ws := wM_term) B.pre
  have hk : ∀ w ∈ W0, w.before _ s = true := fun w h => hts w (List.mem_cons_of_mem _ h)
  have hown : s.vm.findClass "ImageGcdsModel" = some m.cls := findClass_of_methodNamed B.named
  have hlocks := B.notSynchronized
  have hD : va_D (fun q : Nat => q = h0) (mW h0 th le 0 fs) := mD
  have hS : va_S (fun q : Nat => q = h0) s.heap s.heap [] := va_S.rf
  have hl := lv_entry ([.ref h0, .int p0, .long p1, .long p2, .int p3]) (n := 9) (Nat.le_of_ble_eq_true rfl)
  rw [lg_entry_eq]
  generalize (lg_sl ([.ref h0, .int p0, .long p1, .long p2, .int p3]) ++ List.replicate (9 - (lg_sl ([.ref h0, .int p0, .long p1, .long p2, .int p3])).length) Slot.unset).toArray = ls at hl ⊢
  have hl : lv_has ls 9 [(0, .ref h0), (1, .int p0), (2, .long p1), (4, .long p2), (6, .int p3)] := hl
  refine lv_aload_n hx hb dM_term_0 rfl (lv_at hl 0 rfl) ?_
  refine lv_aload_n hx hb dM_term_1 rfl (lv_at hl 0 rfl) ?_
  refine lv_iload_n hx hb dM_term_2 rfl (lv_at hl 1 rfl) ?_
  refine vp_callSi (W.runV (As := [.int p0]) (rest := [.ref h0]) ⟨hx, hb, hml, hown, hk⟩ (cM_isPoly l dC dI h0 th le fs p0) (cwV 1 hk (gV k68 k69 k70 k71 k72) rfl rfl rfl (by decide +kernel) ⟨Nat.le_of_ble_eq_true rfl, Nat.le_of_ble_eq_true rfl⟩) ⟨mB, va_recv hK hP (ci := 2) (q0 := 0) rfl rfl, mP hP hK⟩ rfl rfl hl.1 rfl (lv_room (Nat.le_of_ble_eq_true rfl)) dM_term_3 ⟨Nat.le_of_ble_eq_true rfl, Nat.le_of_ble_eq_true rfl⟩) (fun r20 hw => ?_)
  subst hw
  refine lv_if_ne (tgt := 13) hx hb dM_term_6 (by decide) (fun c21 => ?_) (fun c21 => ?_)
  · skip
    exact absurd c21 (by decide)
  · skip
    refine lv_iconst (v := 1) hx hb dM_term_9 (by decide) ?_
    refine lv_goto (tgt := 14) hx hb dM_term_10 (by decide) ?_
    refine lv_iload hx hb dM_term_14 (lv_at hl 4 rfl) ?_
    refine lv_if_lt (tgt := 32) hx hb dM_term_16 (by decide) (fun c22 => ?_) (fun c22 => ?_)
    · skip
      refine lv_iconst (v := 1) hx hb dM_term_32 (by decide) ?_
      refine lv_goto (tgt := 37) hx hb dM_term_33 (by decide) ?_
      refine lv_lload hx hb dM_term_37 (lv_at hl 3 rfl) ?_
      refine vp_callSi (W.runS (As := [.long p2]) (rest := [.int 1, .int 1, .ref h0]) ⟨hx, hb, hml, hown, hk⟩ (cM_number l p2) (va_cwS 1 hk (gS k74 k75 k71 k76) rfl rfl rfl (by decide +kernel) ⟨Nat.le_of_ble_eq_true rfl, Nat.le_of_ble_eq_true rfl⟩) ⟨fun _ _ _ _ q => q, fun _ _ _ => rfl⟩ rfl rfl hl.1 rfl (lv_room (Nat.le_of_ble_eq_true rfl)) dM_term_39 ⟨Nat.le_of_ble_eq_true rfl, Nat.le_of_ble_eq_true rfl⟩) (fun r23 _ => ?_)
      refine lv_if_ne (tgt := 49) hx hb dM_term_42 (by decide) (fun c24 => ?_) (fun c24 => ?_)
      · skip
        refine lv_iconst (v := 0) hx hb dM_term_49 (by decide) ?_
        refine va_calli (va_runV (As := [.int 1, .int 1, .int 0]) (rest := []) ⟨hx, hb, hml, hown, hk⟩ (cM_fails1 l dC dI h0 th le fs 1 0) (cwV 3 hk (gV k77 k78 k79 k71 k80) rfl rfl rfl (by decide +kernel) ⟨Nat.le_of_ble_eq_true rfl, Nat.le_of_ble_eq_true rfl⟩) ⟨mB, va_recv hK hP (ci := 2) (q0 := 0) rfl rfl, mP hP hK⟩ rfl rfl hl.1 rfl (lv_room (Nat.le_of_ble_eq_true rfl)) dM_term_50 ⟨Nat.le_of_ble_eq_true rfl, Nat.le_of_ble_eq_true rfl⟩) hS (fun q _ h => h) (fun q h => h) (fun r25 _ t H1 locs ht hvm hw hB hz1 hk1 hS => ?_)
        subst hw
        obtain ⟨hP, hK1⟩ := hB
        rw [ht] at hP
        generalize H1 = H at hP hS ⊢
        have hD : va_D (fun q : Nat => q = h0) (mW h0 1 le 0 fs) := mD
        refine lv_if_eq (tgt := 58) hx hb dM_term_53 (by decide) (fun c26 => ?_) (fun c26 => ?_)
        · skip
          exact absurd c26 (by decide)
        · skip
          refine lv_iconst (v := 0) hx hb dM_term_56 (by decide) ?_
          exact W.zret (v := 0) hx hb hr rfl (fun t ht hW => ⟨⟨0, (), rfl, rfl, by rw [ht]; exact hP, va_K.moved hW.alike hK⟩, hS.F ht⟩) hS.2.2 dM_term_57
      · skip
        refine lv_iconst (v := 1) hx hb dM_term_45 (by decide) ?_
        refine lv_goto (tgt := 50) hx hb dM_term_46 (by decide) ?_
        refine va_calli (va_runV (As := [.int 1, .int 1, .int 1]) (rest := []) ⟨hx, hb, hml, hown, hk⟩ (cM_fails1 l dC dI h0 th le fs 1 1) (cwV 3 hk (gV k77 k78 k79 k71 k80) rfl rfl rfl (by decide +kernel) ⟨Nat.le_of_ble_eq_true rfl, Nat.le_of_ble_eq_true rfl⟩) ⟨mB, va_recv hK hP (ci := 2) (q0 := 0) rfl rfl, mP hP hK⟩ rfl rfl hl.1 rfl (lv_room (Nat.le_of_ble_eq_true rfl)) dM_term_50 ⟨Nat.le_of_ble_eq_true rfl, Nat.le_of_ble_eq_true rfl⟩) hS (fun q _ h => h) (fun q h => h) (fun r27 _ t H1 locs ht hvm hw hB hz1 hk1 hS => ?_)
        subst hw
        obtain ⟨hP, hK1⟩ := hB
        rw [ht] at hP
        generalize H1 = H at hP hS ⊢
        have hD : va_D (fun q : Nat => q = h0) (mW h0 1 le 0 fs) := mD
        refine lv_if_eq (tgt := 58) hx hb dM_term_53 (by decide) (fun c28 => ?_) (fun c28 => ?_)
        · skip
          exact absurd c28 (by decide)
        · skip
          refine lv_iconst (v := 0) hx hb dM_term_56 (by decide) ?_
          exact W.zret (v := 0) hx hb hr rfl (fun t ht hW => ⟨⟨0, (), rfl, rfl, by rw [ht]; exact hP, va_K.moved hW.alike hK⟩, hS.F ht⟩) hS.2.2 dM_term_57
    · skip
      refine lv_iload hx hb dM_term_19 (lv_at hl 4 rfl) ?_
      refine lv_iconst (v := 1) hx hb dM_term_21 (by decide) ?_
      refine lv_iconst (v := 4) hx hb dM_term_22 (by decide) ?_
      refine lv_aload_n hx hb dM_term_23 rfl (lv_at hl 0 rfl) ?_
      refine va_get (D := (dC, dI)) (ci := 2) (v := .int le) (C := "ImageGcdsModel") (T := TM) (N := 25) hx hb hk uM hown hK hP 0 rfl rfl 1 (by decide) (hk _ k67) (fun _ h9 => h9) rfl dM_term_24 ?_
      refine lv_imul hx hb dM_term_27 ?_
      refine lv_topi (fun v29 ev29 => ?_)
      refine lv_ishl hx hb dM_term_28 ?_
      refine lv_topi (fun v30 ev30 => ?_)
      refine lv_icmp_lt (tgt := 36) hx hb dM_term_29 (by decide) (fun c31 => ?_) (fun c31 => ?_)
      · skip
        refine lv_iconst (v := 0) hx hb dM_term_36 (by decide) ?_
        refine lv_lload hx hb dM_term_37 (lv_at hl 3 rfl) ?_
        refine vp_callSi (W.runS (As := [.long p2]) (rest := [.int 0, .int 1, .ref h0]) ⟨hx, hb, hml, hown, hk⟩ (cM_number l p2) (va_cwS 1 hk (gS k74 k75 k71 k76) rfl rfl rfl (by decide +kernel) ⟨Nat.le_of_ble_eq_true rfl, Nat.le_of_ble_eq_true rfl⟩) ⟨fun _ _ _ _ q => q, fun _ _ _ => rfl⟩ rfl rfl hl.1 rfl (lv_room (Nat.le_of_ble_eq_true rfl)) dM_term_39 ⟨Nat.le_of_ble_eq_true rfl, Nat.le_of_ble_eq_true rfl⟩) (fun r32 _ => ?_)
        refine lv_if_ne (tgt := 49) hx hb dM_term_42 (by decide) (fun c33 => ?_) (fun c33 => ?_)
        · skip
          refine lv_iconst (v := 0) hx hb dM_term_49 (by decide) ?_
          refine va_calli (va_runV (As := [.int 1, .int 0, .int 0]) (rest := []) ⟨hx, hb, hml, hown, hk⟩ (cM_fails1 l dC dI h0 th le fs 0 0) (cwV 3 hk (gV k77 k78 k79 k71 k80) rfl rfl rfl (by decide +kernel) ⟨Nat.le_of_ble_eq_true rfl, Nat.le_of_ble_eq_true rfl⟩) ⟨mB, va_recv hK hP (ci := 2) (q0 := 0) rfl rfl, mP hP hK⟩ rfl rfl hl.1 rfl (lv_room (Nat.le_of_ble_eq_true rfl)) dM_term_50 ⟨Nat.le_of_ble_eq_true rfl, Nat.le_of_ble_eq_true rfl⟩) hS (fun q _ h => h) (fun q h => h) (fun r34 _ t H1 locs ht hvm hw hB hz1 hk1 hS => ?_)
          subst hw
          obtain ⟨hP, hK1⟩ := hB
          rw [ht] at hP
          generalize H1 = H at hP hS ⊢
          have hD : va_D (fun q : Nat => q = h0) (mW h0 1 le 0 fs) := mD
          refine lv_if_eq (tgt := 58) hx hb dM_term_53 (by decide) (fun c35 => ?_) (fun c35 => ?_)
          · skip
            exact absurd c35 (by decide)
          · skip
            refine lv_iconst (v := 0) hx hb dM_term_56 (by decide) ?_
            exact W.zret (v := 0) hx hb hr rfl (fun t ht hW => ⟨⟨0, (), rfl, rfl, by rw [ht]; exact hP, va_K.moved hW.alike hK⟩, hS.F ht⟩) hS.2.2 dM_term_57
        · skip
          refine lv_iconst (v := 1) hx hb dM_term_45 (by decide) ?_
          refine lv_goto (tgt := 50) hx hb dM_term_46 (by decide) ?_
          refine va_calli (va_runV (As := [.int 1, .int 0, .int 1]) (rest := []) ⟨hx, hb, hml, hown, hk⟩ (cM_fails1 l dC dI h0 th le fs 0 1) (cwV 3 hk (gV k77 k78 k79 k71 k80) rfl rfl rfl (by decide +kernel) ⟨Nat.le_of_ble_eq_true rfl, Nat.le_of_ble_eq_true rfl⟩) ⟨mB, va_recv hK hP (ci := 2) (q0 := 0) rfl rfl, mP hP hK⟩ rfl rfl hl.1 rfl (lv_room (Nat.le_of_ble_eq_true rfl)) dM_term_50 ⟨Nat.le_of_ble_eq_true rfl, Nat.le_of_ble_eq_true rfl⟩) hS (fun q _ h => h) (fun q h => h) (fun r36 _ t H1 locs ht hvm hw hB hz1 hk1 hS => ?_)
          subst hw
          obtain ⟨hP, hK1⟩ := hB
          rw [ht] at hP
          generalize H1 = H at hP hS ⊢
          have hD : va_D (fun q : Nat => q = h0) (mW h0 1 le 0 fs) := mD
          refine lv_if_eq (tgt := 58) hx hb dM_term_53 (by decide) (fun c37 => ?_) (fun c37 => ?_)
          · skip
            exact absurd c37 (by decide)
          · skip
            refine lv_iconst (v := 0) hx hb dM_term_56 (by decide) ?_
            exact W.zret (v := 0) hx hb hr rfl (fun t ht hW => ⟨⟨0, (), rfl, rfl, by rw [ht]; exact hP, va_K.moved hW.alike hK⟩, hS.F ht⟩) hS.2.2 dM_term_57
      · skip
        refine lv_iconst (v := 1) hx hb dM_term_32 (by decide) ?_
        refine lv_goto (tgt := 37) hx hb dM_term_33 (by decide) ?_
        refine lv_lload hx hb dM_term_37 (lv_at hl 3 rfl) ?_
        refine vp_callSi (W.runS (As := [.long p2]) (rest := [.int 1, .int 1, .ref h0]) ⟨hx, hb, hml, hown, hk⟩ (cM_number l p2) (va_cwS 1 hk (gS k74 k75 k71 k76) rfl rfl rfl (by decide +kernel) ⟨Nat.le_of_ble_eq_true rfl, Nat.le_of_ble_eq_true rfl⟩) ⟨fun _ _ _ _ q => q, fun _ _ _ => rfl⟩ rfl rfl hl.1 rfl (lv_room (Nat.le_of_ble_eq_true rfl)) dM_term_39 ⟨Nat.le_of_ble_eq_true rfl, Nat.le_of_ble_eq_true rfl⟩) (fun r38 _ => ?_)
        refine lv_if_ne (tgt := 49) hx hb dM_term_42 (by decide) (fun c39 => ?_) (fun c39 => ?_)
        · skip
          refine lv_iconst (v := 0) hx hb dM_term_49 (by decide) ?_
          refine va_calli (va_runV (As := [.int 1, .int 1, .int 0]) (rest := []) ⟨hx, hb, hml, hown, hk⟩ (cM_fails1 l dC dI h0 th le fs 1 0) (cwV 3 hk (gV k77 k78 k79 k71 k80) rfl rfl rfl (by decide +kernel) ⟨Nat.le_of_ble_eq_true rfl, Nat.le_of_ble_eq_true rfl⟩) ⟨mB, va_recv hK hP (ci := 2) (q0 := 0) rfl rfl, mP hP hK⟩ rfl rfl hl.1 rfl (lv_room (Nat.le_of_ble_eq_true rfl)) dM_term_50 ⟨Nat.le_of_ble_eq_true rfl, Nat.le_of_ble_eq_true rfl⟩) hS (fun q _ h => h) (fun q h => h) (fun r40 _ t H1 locs ht hvm hw hB hz1 hk1 hS => ?_)
          subst hw
          obtain ⟨hP, hK1⟩ := hB
          rw [ht] at hP
          generalize H1 = H at hP hS ⊢
          have hD : va_D (fun q : Nat => q = h0) (mW h0 1 le 0 fs) := mD
          refine lv_if_eq (tgt := 58) hx hb dM_term_53 (by decide) (fun c41 => ?_) (fun c41 => ?_)
          · skip
            exact absurd c41 (by decide)
          · skip
            refine lv_iconst (v := 0) hx hb dM_term_56 (by decide) ?_
            exact W.zret (v := 0) hx hb hr rfl (fun t ht hW => ⟨⟨0, (), rfl, rfl, by rw [ht]; exact hP, va_K.moved hW.alike hK⟩, hS.F ht⟩) hS.2.2 dM_term_57
        · skip
          refine lv_iconst (v := 1) hx hb dM_term_45 (by decide) ?_
          refine lv_goto (tgt := 50) hx hb dM_term_46 (by decide) ?_
          refine va_calli (va_runV (As := [.int 1, .int 1, .int 1]) (rest := []) ⟨hx, hb, hml, hown, hk⟩ (cM_fails1 l dC dI h0 th le fs 1 1) (cwV 3 hk (gV k77 k78 k79 k71 k80) rfl rfl rfl (by decide +kernel) ⟨Nat.le_of_ble_eq_true rfl, Nat.le_of_ble_eq_true rfl⟩) ⟨mB, va_recv hK hP (ci := 2) (q0 := 0) rfl rfl, mP hP hK⟩ rfl rfl hl.1 rfl (lv_room (Nat.le_of_ble_eq_true rfl)) dM_term_50 ⟨Nat.le_of_ble_eq_true rfl, Nat.le_of_ble_eq_true rfl⟩) hS (fun q _ h => h) (fun q h => h) (fun r42 _ t H1 locs ht hvm hw hB hz1 hk1 hS => ?_)
          subst hw
          obtain ⟨hP, hK1⟩ := hB
          rw [ht] at hP
          generalize H1 = H at hP hS ⊢
          have hD : va_D (fun q : Nat => q = h0) (mW h0 1 le 0 fs) := mD
          refine lv_if_eq (tgt := 58) hx hb dM_term_53 (by decide) (fun c43 => ?_) (fun c43 => ?_)
          · skip
            exact absurd c43 (by decide)
          · skip
            refine lv_iconst (v := 0) hx hb dM_term_56 (by decide) ?_
            exact W.zret (v := 0) hx hb hr rfl (fun t ht hW => ⟨⟨0, (), rfl, rfl, by rw [ht]; exact hP, va_K.moved hW.alike hK⟩, hS.F ht⟩) hS.2.2 dM_term_57
set_option maxHeartbeats 4000000 in
set_option maxRecDepth 100000 in
theorem cM_add (l : Launch) (dC : Nat → ClassId) (dI : Nat → Nat → Nat) (h0 : Nat) (th le : Int32) (fs : List Value) (p0 : Int32) (p1 : Int32) : Met l yM_add wM_add ({ frames := 2, cells := 0, slots := 0, locals := 60 }) (va_Pc [.ref h0, .int p0, .int p1] (mU dC dI h0 th le fs)) (va_Qi (fun (r : Int32) (_ : Unit) => r = 0) (fun _ t => mU dC dI h0 1 le fs t) (fun q => q = h0)) 0 0 (fun q => q = h0) := by
  refine Met.ofW (cc := bM_add) (maxL := 4) (ret := (some .int)) (by decide) rfl ?_
  intro p e s m args below meth c s₁ B hml hv
  obtain ⟨rfl, hP, hK⟩ := hv
  have hx := B.exec
  have hb := B.bytes
  have hr := B.returns
  have hts := atoms_spec (ws := wM_add) B.pre
  have hk : ∀ w ∈ W0, w.before _ s = true := fun w h => hts w (List.mem_cons_of_mem _ h)
  have hown : s.vm.findClass "ImageGcdsModel" = some m.cls := findClass_of_methodNamed B.named
  have hlocks := B.notSynchronized
  have hD : va_D (fun q : Nat => q = h0) (mW h0 th le 0 fs) := mD
  have hS : va_S (fun q : Nat => q = h0) s.heap s.heap [] := va_S.rf
  have hl := lv_entry ([.ref h0, .int p0, .int p1]) (n := 4) (Nat.le_of_ble_eq_true rfl)
  rw [lg_entry_eq]
  generalize (lg_sl ([.ref h0, .int p0, .int p1]) ++ List.replicate (4 - (lg_sl ([.ref h0, .int p0, .int p1])).length) Slot.unset).toArray = ls at hl ⊢
  have hl : lv_has ls 4 [(0, .ref h0), (1, .int p0), (2, .int p1)] := hl
  refine lv_aload_n hx hb dM_add_0 rfl (lv_at hl 0 rfl) ?_
  refine lv_aload_n hx hb dM_add_1 rfl (lv_at hl 0 rfl) ?_
  refine lv_iload_n hx hb dM_add_2 rfl (lv_at hl 1 rfl) ?_
  refine lv_iload_n hx hb dM_add_3 rfl (lv_at hl 2 rfl) ?_
  refine vp_callSi (W.runV (As := [.int p0, .int p1]) (rest := [.ref h0]) ⟨hx, hb, hml, hown, hk⟩ (cM_areNot l dC dI h0 th le fs p0 p1) (cwV 2 hk (gV k81 k82 k83 k71 k84) rfl rfl rfl (by decide +kernel) ⟨Nat.le_of_ble_eq_true rfl, Nat.le_of_ble_eq_true rfl⟩) ⟨mB, va_recv hK hP (ci := 2) (q0 := 0) rfl rfl, mP hP hK⟩ rfl rfl hl.1 rfl (lv_room (Nat.le_of_ble_eq_true rfl)) dM_add_4 ⟨Nat.le_of_ble_eq_true rfl, Nat.le_of_ble_eq_true rfl⟩) (fun r44 hw => ?_)
  subst hw
  refine lv_aload_n hx hb dM_add_7 rfl (lv_at hl 0 rfl) ?_
  refine vp_callSi (W.runV (As := []) (rest := [.int 1, .ref h0]) ⟨hx, hb, hml, hown, hk⟩ (cM_isFull l dC dI h0 th le fs) (cwV 0 hk (gV k85 k86 k87 k71 k88) rfl rfl rfl (by decide +kernel) ⟨Nat.le_of_ble_eq_true rfl, Nat.le_of_ble_eq_true rfl⟩) ⟨mB, va_recv hK hP (ci := 2) (q0 := 0) rfl rfl, mP hP hK⟩ rfl rfl hl.1 rfl (lv_room (Nat.le_of_ble_eq_true rfl)) dM_add_8 ⟨Nat.le_of_ble_eq_true rfl, Nat.le_of_ble_eq_true rfl⟩) (fun r45 hw => ?_)
  subst hw
  refine lv_iconst (v := 0) hx hb dM_add_11 (by decide) ?_
  refine va_calli (va_runV (As := [.int 1, .int 0, .int 0]) (rest := []) ⟨hx, hb, hml, hown, hk⟩ (cM_fails1 l dC dI h0 th le fs 0 0) (cwV 3 hk (gV k77 k78 k79 k71 k80) rfl rfl rfl (by decide +kernel) ⟨Nat.le_of_ble_eq_true rfl, Nat.le_of_ble_eq_true rfl⟩) ⟨mB, va_recv hK hP (ci := 2) (q0 := 0) rfl rfl, mP hP hK⟩ rfl rfl hl.1 rfl (lv_room (Nat.le_of_ble_eq_true rfl)) dM_add_12 ⟨Nat.le_of_ble_eq_true rfl, Nat.le_of_ble_eq_true rfl⟩) hS (fun q _ h => h) (fun q h => h) (fun r46 _ t H1 locs ht hvm hw hB hz1 hk1 hS => ?_)
  subst hw
  obtain ⟨hP, hK1⟩ := hB
  rw [ht] at hP
  generalize H1 = H at hP hS ⊢
  have hD : va_D (fun q : Nat => q = h0) (mW h0 1 le 0 fs) := mD
  refine lv_if_eq (tgt := 20) hx hb dM_add_15 (by decide) (fun c47 => ?_) (fun c47 => ?_)
  · skip
    exact absurd c47 (by decide)
  · skip
    refine lv_iconst (v := 0) hx hb dM_add_18 (by decide) ?_
    exact W.iret (v := 0) hx hb hr (fun t ht hW => ⟨⟨0, (), rfl, rfl, by rw [ht]; exact hP, va_K.moved hW.alike hK⟩, hS.F ht⟩) hS.2.2 dM_add_19
set_option maxHeartbeats 4000000 in
set_option maxRecDepth 100000 in
theorem cM_times (l : Launch) (dC : Nat → ClassId) (dI : Nat → Nat → Nat) (h0 : Nat) (th le : Int32) (fs : List Value) (p0 : Int32) (p1 : Int32) : Met l yM_times wM_times ({ frames := 2, cells := 0, slots := 0, locals := 60 }) (va_Pc [.ref h0, .int p0, .int p1] (mU dC dI h0 th le fs)) (va_Qi (fun (r : Int32) (_ : Unit) => r = 0) (fun _ t => mU dC dI h0 1 le fs t) (fun q => q = h0)) 0 0 (fun q => q = h0) := by
  refine Met.ofW (cc := bM_times) (maxL := 3) (ret := (some .int)) (by decide) rfl ?_
  intro p e s m args below meth c s₁ B hml hv
  obtain ⟨rfl, hP, hK⟩ := hv
  have hx := B.exec
  have hb := B.bytes
  have hr := B.returns
  have hts := atoms_spec (ws := wM_times) B.pre
  have hk : ∀ w ∈ W0, w.before _ s = true := fun w h => hts w (List.mem_cons_of_mem _ h)
  have hown : s.vm.findClass "ImageGcdsModel" = some m.cls := findClass_of_methodNamed B.named
  have hlocks := B.notSynchronized
  have hD : va_D (fun q : Nat => q = h0) (mW h0 th le 0 fs) := mD
  have hS : va_S (fun q : Nat => q = h0) s.heap s.heap [] := va_S.rf
  have hl := lv_entry ([.ref h0, .int p0, .int p1]) (n := 3) (Nat.le_of_ble_eq_true rfl)
  rw [lg_entry_eq]
  generalize (lg_sl ([.ref h0, .int p0, .int p1]) ++ List.replicate (3 - (lg_sl ([.ref h0, .int p0, .int p1])).length) Slot.unset).toArray = ls at hl ⊢
  have hl : lv_has ls 3 [(0, .ref h0), (1, .int p0), (2, .int p1)] := hl
  refine lv_aload_n hx hb dM_times_0 rfl (lv_at hl 0 rfl) ?_
  refine lv_aload_n hx hb dM_times_1 rfl (lv_at hl 0 rfl) ?_
  refine lv_iload_n hx hb dM_times_2 rfl (lv_at hl 1 rfl) ?_
  refine lv_iload_n hx hb dM_times_3 rfl (lv_at hl 2 rfl) ?_
  refine vp_callSi (W.runV (As := [.int p0, .int p1]) (rest := [.ref h0]) ⟨hx, hb, hml, hown, hk⟩ (cM_areNot l dC dI h0 th le fs p0 p1) (cwV 2 hk (gV k81 k82 k83 k71 k84) rfl rfl rfl (by decide +kernel) ⟨Nat.le_of_ble_eq_true rfl, Nat.le_of_ble_eq_true rfl⟩) ⟨mB, va_recv hK hP (ci := 2) (q0 := 0) rfl rfl, mP hP hK⟩ rfl rfl hl.1 rfl (lv_room (Nat.le_of_ble_eq_true rfl)) dM_times_4 ⟨Nat.le_of_ble_eq_true rfl, Nat.le_of_ble_eq_true rfl⟩) (fun r48 hw => ?_)
  subst hw
  refine lv_aload_n hx hb dM_times_7 rfl (lv_at hl 0 rfl) ?_
  refine vp_callSi (W.runV (As := []) (rest := [.int 1, .ref h0]) ⟨hx, hb, hml, hown, hk⟩ (cM_isFull l dC dI h0 th le fs) (cwV 0 hk (gV k85 k86 k87 k71 k88) rfl rfl rfl (by decide +kernel) ⟨Nat.le_of_ble_eq_true rfl, Nat.le_of_ble_eq_true rfl⟩) ⟨mB, va_recv hK hP (ci := 2) (q0 := 0) rfl rfl, mP hP hK⟩ rfl rfl hl.1 rfl (lv_room (Nat.le_of_ble_eq_true rfl)) dM_times_8 ⟨Nat.le_of_ble_eq_true rfl, Nat.le_of_ble_eq_true rfl⟩) (fun r49 hw => ?_)
  subst hw
  refine lv_aload_n hx hb dM_times_11 rfl (lv_at hl 0 rfl) ?_
  refine lv_iload_n hx hb dM_times_12 rfl (lv_at hl 1 rfl) ?_
  refine lv_iload_n hx hb dM_times_13 rfl (lv_at hl 2 rfl) ?_
  refine vp_callSi (W.runV (As := [.int p0, .int p1]) (rest := [.int 0, .int 1, .ref h0]) ⟨hx, hb, hml, hown, hk⟩ (cM_areNot l dC dI h0 th le fs p0 p1) (cwV 2 hk (gV k81 k82 k83 k71 k84) rfl rfl rfl (by decide +kernel) ⟨Nat.le_of_ble_eq_true rfl, Nat.le_of_ble_eq_true rfl⟩) ⟨mB, va_recv hK hP (ci := 2) (q0 := 0) rfl rfl, mP hP hK⟩ rfl rfl hl.1 rfl (lv_room (Nat.le_of_ble_eq_true rfl)) dM_times_14 ⟨Nat.le_of_ble_eq_true rfl, Nat.le_of_ble_eq_true rfl⟩) (fun r50 hw => ?_)
  subst hw
  refine lv_if_ne (tgt := 33) hx hb dM_times_17 (by decide) (fun c51 => ?_) (fun c51 => ?_)
  · skip
    refine lv_iconst (v := 0) hx hb dM_times_33 (by decide) ?_
    refine va_calli (va_runV (As := [.int 1, .int 0, .int 0]) (rest := []) ⟨hx, hb, hml, hown, hk⟩ (cM_fails1 l dC dI h0 th le fs 0 0) (cwV 3 hk (gV k77 k78 k79 k71 k80) rfl rfl rfl (by decide +kernel) ⟨Nat.le_of_ble_eq_true rfl, Nat.le_of_ble_eq_true rfl⟩) ⟨mB, va_recv hK hP (ci := 2) (q0 := 0) rfl rfl, mP hP hK⟩ rfl rfl hl.1 rfl (lv_room (Nat.le_of_ble_eq_true rfl)) dM_times_34 ⟨Nat.le_of_ble_eq_true rfl, Nat.le_of_ble_eq_true rfl⟩) hS (fun q _ h => h) (fun q h => h) (fun r52 _ t H1 locs ht hvm hw hB hz1 hk1 hS => ?_)
    subst hw
    obtain ⟨hP, hK1⟩ := hB
    rw [ht] at hP
    generalize H1 = H at hP hS ⊢
    have hD : va_D (fun q : Nat => q = h0) (mW h0 1 le 0 fs) := mD
    refine lv_if_eq (tgt := 42) hx hb dM_times_37 (by decide) (fun c53 => ?_) (fun c53 => ?_)
    · skip
      exact absurd c53 (by decide)
    · skip
      refine lv_iconst (v := 0) hx hb dM_times_40 (by decide) ?_
      exact W.iret (v := 0) hx hb hr (fun t ht hW => ⟨⟨0, (), rfl, rfl, by rw [ht]; exact hP, va_K.moved hW.alike hK⟩, hS.F ht⟩) hS.2.2 dM_times_41
  · skip
    exact absurd c51 (by decide)
set_option maxHeartbeats 4000000 in
set_option maxRecDepth 100000 in
theorem cM_over (l : Launch) (dC : Nat → ClassId) (dI : Nat → Nat → Nat) (h0 : Nat) (th le : Int32) (fs : List Value) (p0 : Int32) (p1 : Int32) : Met l yM_over wM_over ({ frames := 2, cells := 0, slots := 0, locals := 60 }) (va_Pc [.ref h0, .int p0, .int p1] (mU dC dI h0 th le fs)) (va_Qi (fun (r : Int32) (_ : Unit) => r = 0) (fun _ t => mU dC dI h0 1 le fs t) (fun q => q = h0)) 0 0 (fun q => q = h0) := by
  refine Met.ofW (cc := bM_over) (maxL := 3) (ret := (some .int)) (by decide) rfl ?_
  intro p e s m args below meth c s₁ B hml hv
  obtain ⟨rfl, hP, hK⟩ := hv
  have hx := B.exec
  have hb := B.bytes
  have hr := B.returns
  have hts := atoms_spec (ws := wM_over) B.pre
  have hk : ∀ w ∈ W0, w.before _ s = true := fun w h => hts w (List.mem_cons_of_mem _ h)
  have hown : s.vm.findClass "ImageGcdsModel" = some m.cls := findClass_of_methodNamed B.named
  have hlocks := B.notSynchronized
  have hD : va_D (fun q : Nat => q = h0) (mW h0 th le 0 fs) := mD
  have hS : va_S (fun q : Nat => q = h0) s.heap s.heap [] := va_S.rf
  have hl := lv_entry ([.ref h0, .int p0, .int p1]) (n := 3) (Nat.le_of_ble_eq_true rfl)
  rw [lg_entry_eq]
  generalize (lg_sl ([.ref h0, .int p0, .int p1]) ++ List.replicate (3 - (lg_sl ([.ref h0, .int p0, .int p1])).length) Slot.unset).toArray = ls at hl ⊢
  have hl : lv_has ls 3 [(0, .ref h0), (1, .int p0), (2, .int p1)] := hl
  refine lv_aload_n hx hb dM_over_0 rfl (lv_at hl 0 rfl) ?_
  refine lv_aload_n hx hb dM_over_1 rfl (lv_at hl 0 rfl) ?_
  refine lv_iload_n hx hb dM_over_2 rfl (lv_at hl 1 rfl) ?_
  refine lv_iload_n hx hb dM_over_3 rfl (lv_at hl 2 rfl) ?_
  refine vp_callSi (W.runV (As := [.int p0, .int p1]) (rest := [.ref h0]) ⟨hx, hb, hml, hown, hk⟩ (cM_areNot l dC dI h0 th le fs p0 p1) (cwV 2 hk (gV k81 k82 k83 k71 k84) rfl rfl rfl (by decide +kernel) ⟨Nat.le_of_ble_eq_true rfl, Nat.le_of_ble_eq_true rfl⟩) ⟨mB, va_recv hK hP (ci := 2) (q0 := 0) rfl rfl, mP hP hK⟩ rfl rfl hl.1 rfl (lv_room (Nat.le_of_ble_eq_true rfl)) dM_over_4 ⟨Nat.le_of_ble_eq_true rfl, Nat.le_of_ble_eq_true rfl⟩) (fun r54 hw => ?_)
  subst hw
  refine lv_aload_n hx hb dM_over_7 rfl (lv_at hl 0 rfl) ?_
  refine vp_callSi (W.runV (As := []) (rest := [.int 1, .ref h0]) ⟨hx, hb, hml, hown, hk⟩ (cM_isFull l dC dI h0 th le fs) (cwV 0 hk (gV k85 k86 k87 k71 k88) rfl rfl rfl (by decide +kernel) ⟨Nat.le_of_ble_eq_true rfl, Nat.le_of_ble_eq_true rfl⟩) ⟨mB, va_recv hK hP (ci := 2) (q0 := 0) rfl rfl, mP hP hK⟩ rfl rfl hl.1 rfl (lv_room (Nat.le_of_ble_eq_true rfl)) dM_over_8 ⟨Nat.le_of_ble_eq_true rfl, Nat.le_of_ble_eq_true rfl⟩) (fun r55 hw => ?_)
  subst hw
  refine lv_iconst (v := 0) hx hb dM_over_11 (by decide) ?_
  refine va_calli (va_runV (As := [.int 1, .int 0, .int 0]) (rest := []) ⟨hx, hb, hml, hown, hk⟩ (cM_fails1 l dC dI h0 th le fs 0 0) (cwV 3 hk (gV k77 k78 k79 k71 k80) rfl rfl rfl (by decide +kernel) ⟨Nat.le_of_ble_eq_true rfl, Nat.le_of_ble_eq_true rfl⟩) ⟨mB, va_recv hK hP (ci := 2) (q0 := 0) rfl rfl, mP hP hK⟩ rfl rfl hl.1 rfl (lv_room (Nat.le_of_ble_eq_true rfl)) dM_over_12 ⟨Nat.le_of_ble_eq_true rfl, Nat.le_of_ble_eq_true rfl⟩) hS (fun q _ h => h) (fun q h => h) (fun r56 _ t H1 locs ht hvm hw hB hz1 hk1 hS => ?_)
  subst hw
  obtain ⟨hP, hK1⟩ := hB
  rw [ht] at hP
  generalize H1 = H at hP hS ⊢
  have hD : va_D (fun q : Nat => q = h0) (mW h0 1 le 0 fs) := mD
  refine lv_if_eq (tgt := 20) hx hb dM_over_15 (by decide) (fun c57 => ?_) (fun c57 => ?_)
  · skip
    exact absurd c57 (by decide)
  · skip
    refine lv_iconst (v := 0) hx hb dM_over_18 (by decide) ?_
    exact W.iret (v := 0) hx hb hr (fun t ht hW => ⟨⟨0, (), rfl, rfl, by rw [ht]; exact hP, va_K.moved hW.alike hK⟩, hS.F ht⟩) hS.2.2 dM_over_19
set_option maxHeartbeats 4000000 in
set_option maxRecDepth 100000 in
theorem cM_gcd (l : Launch) (dC : Nat → ClassId) (dI : Nat → Nat → Nat) (h0 : Nat) (th le : Int32) (fs : List Value) (p0 : Int32) (p1 : Int32) : Met l yM_gcd wM_gcd ({ frames := 2, cells := 0, slots := 0, locals := 60 }) (va_Pc [.ref h0, .int p0, .int p1] (mU dC dI h0 th le fs)) (va_Qi (fun (r : Int32) (_ : Unit) => r = 0) (fun _ t => mU dC dI h0 1 le fs t) (fun q => q = h0)) 0 0 (fun q => q = h0) := by
  refine Met.ofW (cc := bM_gcd) (maxL := 3) (ret := (some .int)) (by decide) rfl ?_
  intro p e s m args below meth c s₁ B hml hv
  obtain ⟨rfl, hP, hK⟩ := hv
  have hx := B.exec
  have hb := B.bytes
  have hr := B.returns
  have hts := atoms_spec (ws := wM_gcd) B.pre
  have hk : ∀ w ∈ W0, w.before _ s = true := fun w h => hts w (List.mem_cons_of_mem _ h)
  have hown : s.vm.findClass "ImageGcdsModel" = some m.cls := findClass_of_methodNamed B.named
  have hlocks := B.notSynchronized
  have hD : va_D (fun q : Nat => q = h0) (mW h0 th le 0 fs) := mD
  have hS : va_S (fun q : Nat => q = h0) s.heap s.heap [] := va_S.rf
  have hl := lv_entry ([.ref h0, .int p0, .int p1]) (n := 3) (Nat.le_of_ble_eq_true rfl)
  rw [lg_entry_eq]
  generalize (lg_sl ([.ref h0, .int p0, .int p1]) ++ List.replicate (3 - (lg_sl ([.ref h0, .int p0, .int p1])).length) Slot.unset).toArray = ls at hl ⊢
  have hl : lv_has ls 3 [(0, .ref h0), (1, .int p0), (2, .int p1)] := hl
  refine lv_aload_n hx hb dM_gcd_0 rfl (lv_at hl 0 rfl) ?_
  refine lv_aload_n hx hb dM_gcd_1 rfl (lv_at hl 0 rfl) ?_
  refine lv_iload_n hx hb dM_gcd_2 rfl (lv_at hl 1 rfl) ?_
  refine lv_iload_n hx hb dM_gcd_3 rfl (lv_at hl 2 rfl) ?_
  refine vp_callSi (W.runV (As := [.int p0, .int p1]) (rest := [.ref h0]) ⟨hx, hb, hml, hown, hk⟩ (cM_areNot l dC dI h0 th le fs p0 p1) (cwV 2 hk (gV k81 k82 k83 k71 k84) rfl rfl rfl (by decide +kernel) ⟨Nat.le_of_ble_eq_true rfl, Nat.le_of_ble_eq_true rfl⟩) ⟨mB, va_recv hK hP (ci := 2) (q0 := 0) rfl rfl, mP hP hK⟩ rfl rfl hl.1 rfl (lv_room (Nat.le_of_ble_eq_true rfl)) dM_gcd_4 ⟨Nat.le_of_ble_eq_true rfl, Nat.le_of_ble_eq_true rfl⟩) (fun r58 hw => ?_)
  subst hw
  refine lv_aload_n hx hb dM_gcd_7 rfl (lv_at hl 0 rfl) ?_
  refine vp_callSi (W.runV (As := []) (rest := [.int 1, .ref h0]) ⟨hx, hb, hml, hown, hk⟩ (cM_isFull l dC dI h0 th le fs) (cwV 0 hk (gV k85 k86 k87 k71 k88) rfl rfl rfl (by decide +kernel) ⟨Nat.le_of_ble_eq_true rfl, Nat.le_of_ble_eq_true rfl⟩) ⟨mB, va_recv hK hP (ci := 2) (q0 := 0) rfl rfl, mP hP hK⟩ rfl rfl hl.1 rfl (lv_room (Nat.le_of_ble_eq_true rfl)) dM_gcd_8 ⟨Nat.le_of_ble_eq_true rfl, Nat.le_of_ble_eq_true rfl⟩) (fun r59 hw => ?_)
  subst hw
  refine lv_iconst (v := 0) hx hb dM_gcd_11 (by decide) ?_
  refine va_calli (va_runV (As := [.int 1, .int 0, .int 0]) (rest := []) ⟨hx, hb, hml, hown, hk⟩ (cM_fails1 l dC dI h0 th le fs 0 0) (cwV 3 hk (gV k77 k78 k79 k71 k80) rfl rfl rfl (by decide +kernel) ⟨Nat.le_of_ble_eq_true rfl, Nat.le_of_ble_eq_true rfl⟩) ⟨mB, va_recv hK hP (ci := 2) (q0 := 0) rfl rfl, mP hP hK⟩ rfl rfl hl.1 rfl (lv_room (Nat.le_of_ble_eq_true rfl)) dM_gcd_12 ⟨Nat.le_of_ble_eq_true rfl, Nat.le_of_ble_eq_true rfl⟩) hS (fun q _ h => h) (fun q h => h) (fun r60 _ t H1 locs ht hvm hw hB hz1 hk1 hS => ?_)
  subst hw
  obtain ⟨hP, hK1⟩ := hB
  rw [ht] at hP
  generalize H1 = H at hP hS ⊢
  have hD : va_D (fun q : Nat => q = h0) (mW h0 1 le 0 fs) := mD
  refine lv_if_eq (tgt := 20) hx hb dM_gcd_15 (by decide) (fun c61 => ?_) (fun c61 => ?_)
  · skip
    exact absurd c61 (by decide)
  · skip
    refine lv_iconst (v := 0) hx hb dM_gcd_18 (by decide) ?_
    exact W.iret (v := 0) hx hb hr (fun t ht hW => ⟨⟨0, (), rfl, rfl, by rw [ht]; exact hP, va_K.moved hW.alike hK⟩, hS.F ht⟩) hS.2.2 dM_gcd_19
set_option maxHeartbeats 4000000 in
set_option maxRecDepth 100000 in
theorem cM_resultant (l : Launch) (dC : Nat → ClassId) (dI : Nat → Nat → Nat) (h0 : Nat) (th le : Int32) (fs : List Value) (p0 : Int32) (p1 : Int32) (p2 : Int32) : Met l yM_resultant wM_resultant ({ frames := 2, cells := 0, slots := 0, locals := 60 }) (va_Pc [.ref h0, .int p0, .int p1, .int p2] (mU dC dI h0 th le fs)) (va_Qi (fun (r : Int32) (_ : Unit) => r = 0) (fun _ t => mU dC dI h0 1 le fs t) (fun q => q = h0)) 0 0 (fun q => q = h0) := by
  refine Met.ofW (cc := bM_resultant) (maxL := 12) (ret := (some .int)) (by decide) rfl ?_
  intro p e s m args below meth c s₁ B hml hv
  obtain ⟨rfl, hP, hK⟩ := hv
  have hx := B.exec
  have hb := B.bytes
  have hr := B.returns
  have hts := atoms_spec (ws := wM_resultant) B.pre
  have hk : ∀ w ∈ W0, w.before _ s = true := fun w h => hts w (List.mem_cons_of_mem _ h)
  have hown : s.vm.findClass "ImageGcdsModel" = some m.cls := findClass_of_methodNamed B.named
  have hlocks := B.notSynchronized
  have hD : va_D (fun q : Nat => q = h0) (mW h0 th le 0 fs) := mD
  have hS : va_S (fun q : Nat => q = h0) s.heap s.heap [] := va_S.rf
  have hl := lv_entry ([.ref h0, .int p0, .int p1, .int p2]) (n := 12) (Nat.le_of_ble_eq_true rfl)
  rw [lg_entry_eq]
  generalize (lg_sl ([.ref h0, .int p0, .int p1, .int p2]) ++ List.replicate (12 - (lg_sl ([.ref h0, .int p0, .int p1, .int p2])).length) Slot.unset).toArray = ls at hl ⊢
  have hl : lv_has ls 12 [(0, .ref h0), (1, .int p0), (2, .int p1), (3, .int p2)] := hl
  refine lv_aload_n hx hb dM_resultant_0 rfl (lv_at hl 0 rfl) ?_
  refine lv_iload_n hx hb dM_resultant_1 rfl (lv_at hl 1 rfl) ?_
  refine lv_iload_n hx hb dM_resultant_2 rfl (lv_at hl 2 rfl) ?_
  refine vp_callSi (W.runV (As := [.int p0, .int p1]) (rest := []) ⟨hx, hb, hml, hown, hk⟩ (cM_areNot l dC dI h0 th le fs p0 p1) (cwV 2 hk (gV k81 k82 k83 k71 k84) rfl rfl rfl (by decide +kernel) ⟨Nat.le_of_ble_eq_true rfl, Nat.le_of_ble_eq_true rfl⟩) ⟨mB, va_recv hK hP (ci := 2) (q0 := 0) rfl rfl, mP hP hK⟩ rfl rfl hl.1 rfl (lv_room (Nat.le_of_ble_eq_true rfl)) dM_resultant_3 ⟨Nat.le_of_ble_eq_true rfl, Nat.le_of_ble_eq_true rfl⟩) (fun r62 hw => ?_)
  subst hw
  refine lv_istore (lv' := [(4, .int 1), (0, .ref h0), (1, .int p0), (2, .int p1), (3, .int p2)]) hx hb dM_resultant_6 hl (by decide) rfl (fun ls hl => ?_)
  refine lv_iload hx hb dM_resultant_8 (lv_at hl 0 rfl) ?_
  refine lv_if_ne (tgt := 35) hx hb dM_resultant_10 (by decide) (fun c63 => ?_) (fun c63 => ?_)
  · skip
    refine lv_iconst (v := 0) hx hb dM_resultant_35 (by decide) ?_
    refine lv_istore (lv' := [(5, .int 0), (4, .int 1), (0, .ref h0), (1, .int p0), (2, .int p1), (3, .int p2)]) hx hb dM_resultant_36 hl (by decide) rfl (fun ls hl => ?_)
    refine lv_aload_n hx hb dM_resultant_38 rfl (lv_at hl 2 rfl) ?_
    refine lv_iload hx hb dM_resultant_39 (lv_at hl 1 rfl) ?_
    refine lv_aload_n hx hb dM_resultant_41 rfl (lv_at hl 2 rfl) ?_
    refine vp_callSi (W.runV (As := []) (rest := [.int 1, .ref h0]) ⟨hx, hb, hml, hown, hk⟩ (cM_isFull l dC dI h0 th le fs) (cwV 0 hk (gV k85 k86 k87 k71 k88) rfl rfl rfl (by decide +kernel) ⟨Nat.le_of_ble_eq_true rfl, Nat.le_of_ble_eq_true rfl⟩) ⟨mB, va_recv hK hP (ci := 2) (q0 := 0) rfl rfl, mP hP hK⟩ rfl rfl hl.1 rfl (lv_room (Nat.le_of_ble_eq_true rfl)) dM_resultant_42 ⟨Nat.le_of_ble_eq_true rfl, Nat.le_of_ble_eq_true rfl⟩) (fun r64 hw => ?_)
    subst hw
    refine lv_iload hx hb dM_resultant_45 (lv_at hl 0 rfl) ?_
    refine va_calli (va_runV (As := [.int 1, .int 0, .int 0]) (rest := []) ⟨hx, hb, hml, hown, hk⟩ (cM_fails1 l dC dI h0 th le fs 0 0) (cwV 3 hk (gV k77 k78 k79 k71 k80) rfl rfl rfl (by decide +kernel) ⟨Nat.le_of_ble_eq_true rfl, Nat.le_of_ble_eq_true rfl⟩) ⟨mB, va_recv hK hP (ci := 2) (q0 := 0) rfl rfl, mP hP hK⟩ rfl rfl hl.1 rfl (lv_room (Nat.le_of_ble_eq_true rfl)) dM_resultant_47 ⟨Nat.le_of_ble_eq_true rfl, Nat.le_of_ble_eq_true rfl⟩) hS (fun q _ h => h) (fun q h => h) (fun r65 _ t H1 locs ht hvm hw hB hz1 hk1 hS => ?_)
    subst hw
    obtain ⟨hP, hK1⟩ := hB
    rw [ht] at hP
    generalize H1 = H at hP hS ⊢
    have hD : va_D (fun q : Nat => q = h0) (mW h0 1 le 0 fs) := mD
    refine lv_if_eq (tgt := 55) hx hb dM_resultant_50 (by decide) (fun c66 => ?_) (fun c66 => ?_)
    · skip
      exact absurd c66 (by decide)
    · skip
      refine lv_iconst (v := 0) hx hb dM_resultant_53 (by decide) ?_
      exact W.iret (v := 0) hx hb hr (fun t ht hW => ⟨⟨0, (), rfl, rfl, by rw [ht]; exact hP, va_K.moved hW.alike hK⟩, hS.F ht⟩) hS.2.2 dM_resultant_54
  · skip
    exact absurd c63 (by decide)
set_option maxHeartbeats 4000000 in
set_option maxRecDepth 100000 in
theorem cM_slope (l : Launch) (dC : Nat → ClassId) (dI : Nat → Nat → Nat) (h0 : Nat) (th le : Int32) (fs : List Value) (p0 : Int32) (p1 : Int32) : Met l yM_slope wM_slope ({ frames := 2, cells := 0, slots := 0, locals := 60 }) (va_Pc [.ref h0, .int p0, .int p1] (mU dC dI h0 th le fs)) (va_Qi (fun (r : Int32) (_ : Unit) => r = 0) (fun _ t => mU dC dI h0 1 le fs t) (fun q => q = h0)) 0 0 (fun q => q = h0) := by
  refine Met.ofW (cc := bM_slope) (maxL := 3) (ret := (some .int)) (by decide) rfl ?_
  intro p e s m args below meth c s₁ B hml hv
  obtain ⟨rfl, hP, hK⟩ := hv
  have hx := B.exec
  have hb := B.bytes
  have hr := B.returns
  have hts := atoms_spec (ws := wM_slope) B.pre
  have hk : ∀ w ∈ W0, w.before _ s = true := fun w h => hts w (List.mem_cons_of_mem _ h)
  have hown : s.vm.findClass "ImageGcdsModel" = some m.cls := findClass_of_methodNamed B.named
  have hlocks := B.notSynchronized
  have hD : va_D (fun q : Nat => q = h0) (mW h0 th le 0 fs) := mD
  have hS : va_S (fun q : Nat => q = h0) s.heap s.heap [] := va_S.rf
  have hl := lv_entry ([.ref h0, .int p0, .int p1]) (n := 3) (Nat.le_of_ble_eq_true rfl)
  rw [lg_entry_eq]
  generalize (lg_sl ([.ref h0, .int p0, .int p1]) ++ List.replicate (3 - (lg_sl ([.ref h0, .int p0, .int p1])).length) Slot.unset).toArray = ls at hl ⊢
  have hl : lv_has ls 3 [(0, .ref h0), (1, .int p0), (2, .int p1)] := hl
  refine lv_aload_n hx hb dM_slope_0 rfl (lv_at hl 0 rfl) ?_
  refine lv_aload_n hx hb dM_slope_1 rfl (lv_at hl 0 rfl) ?_
  refine lv_iload_n hx hb dM_slope_2 rfl (lv_at hl 1 rfl) ?_
  refine vp_callSi (W.runV (As := [.int p0]) (rest := [.ref h0]) ⟨hx, hb, hml, hown, hk⟩ (cM_isPoly l dC dI h0 th le fs p0) (cwV 1 hk (gV k68 k69 k70 k71 k72) rfl rfl rfl (by decide +kernel) ⟨Nat.le_of_ble_eq_true rfl, Nat.le_of_ble_eq_true rfl⟩) ⟨mB, va_recv hK hP (ci := 2) (q0 := 0) rfl rfl, mP hP hK⟩ rfl rfl hl.1 rfl (lv_room (Nat.le_of_ble_eq_true rfl)) dM_slope_3 ⟨Nat.le_of_ble_eq_true rfl, Nat.le_of_ble_eq_true rfl⟩) (fun r67 hw => ?_)
  subst hw
  refine lv_if_ne (tgt := 13) hx hb dM_slope_6 (by decide) (fun c68 => ?_) (fun c68 => ?_)
  · skip
    exact absurd c68 (by decide)
  · skip
    refine lv_iconst (v := 1) hx hb dM_slope_9 (by decide) ?_
    refine lv_goto (tgt := 14) hx hb dM_slope_10 (by decide) ?_
    refine lv_aload_n hx hb dM_slope_14 rfl (lv_at hl 0 rfl) ?_
    refine vp_callSi (W.runV (As := []) (rest := [.int 1, .ref h0]) ⟨hx, hb, hml, hown, hk⟩ (cM_isFull l dC dI h0 th le fs) (cwV 0 hk (gV k85 k86 k87 k71 k88) rfl rfl rfl (by decide +kernel) ⟨Nat.le_of_ble_eq_true rfl, Nat.le_of_ble_eq_true rfl⟩) ⟨mB, va_recv hK hP (ci := 2) (q0 := 0) rfl rfl, mP hP hK⟩ rfl rfl hl.1 rfl (lv_room (Nat.le_of_ble_eq_true rfl)) dM_slope_15 ⟨Nat.le_of_ble_eq_true rfl, Nat.le_of_ble_eq_true rfl⟩) (fun r69 hw => ?_)
    subst hw
    refine lv_aload_n hx hb dM_slope_18 rfl (lv_at hl 0 rfl) ?_
    refine lv_iload_n hx hb dM_slope_19 rfl (lv_at hl 2 rfl) ?_
    refine vp_callSi (W.runV (As := [.int p1]) (rest := [.int 0, .int 1, .ref h0]) ⟨hx, hb, hml, hown, hk⟩ (cM_isLetter l dC dI h0 th le fs p1) (cwV 1 hk (gV k89 k90 k91 k71 k92) rfl rfl rfl (by decide +kernel) ⟨Nat.le_of_ble_eq_true rfl, Nat.le_of_ble_eq_true rfl⟩) ⟨mB, va_recv hK hP (ci := 2) (q0 := 0) rfl rfl, mP hP hK⟩ rfl rfl hl.1 rfl (lv_room (Nat.le_of_ble_eq_true rfl)) dM_slope_20 ⟨Nat.le_of_ble_eq_true rfl, Nat.le_of_ble_eq_true rfl⟩) (fun r70 hw => ?_)
    refine lv_if_ne (tgt := 30) hx hb dM_slope_23 (by decide) (fun c71 => ?_) (fun c71 => ?_)
    · skip
      refine lv_iconst (v := 0) hx hb dM_slope_30 (by decide) ?_
      refine va_calli (va_runV (As := [.int 1, .int 0, .int 0]) (rest := []) ⟨hx, hb, hml, hown, hk⟩ (cM_fails1 l dC dI h0 th le fs 0 0) (cwV 3 hk (gV k77 k78 k79 k71 k80) rfl rfl rfl (by decide +kernel) ⟨Nat.le_of_ble_eq_true rfl, Nat.le_of_ble_eq_true rfl⟩) ⟨mB, va_recv hK hP (ci := 2) (q0 := 0) rfl rfl, mP hP hK⟩ rfl rfl hl.1 rfl (lv_room (Nat.le_of_ble_eq_true rfl)) dM_slope_31 ⟨Nat.le_of_ble_eq_true rfl, Nat.le_of_ble_eq_true rfl⟩) hS (fun q _ h => h) (fun q h => h) (fun r72 _ t H1 locs ht hvm hw hB hz1 hk1 hS => ?_)
      subst hw
      obtain ⟨hP, hK1⟩ := hB
      rw [ht] at hP
      generalize H1 = H at hP hS ⊢
      have hD : va_D (fun q : Nat => q = h0) (mW h0 1 le 0 fs) := mD
      refine lv_if_eq (tgt := 39) hx hb dM_slope_34 (by decide) (fun c73 => ?_) (fun c73 => ?_)
      · skip
        exact absurd c73 (by decide)
      · skip
        refine lv_iconst (v := 0) hx hb dM_slope_37 (by decide) ?_
        exact W.iret (v := 0) hx hb hr (fun t ht hW => ⟨⟨0, (), rfl, rfl, by rw [ht]; exact hP, va_K.moved hW.alike hK⟩, hS.F ht⟩) hS.2.2 dM_slope_38
    · skip
      refine lv_iconst (v := 1) hx hb dM_slope_26 (by decide) ?_
      refine lv_goto (tgt := 31) hx hb dM_slope_27 (by decide) ?_
      refine va_calli (va_runV (As := [.int 1, .int 0, .int 1]) (rest := []) ⟨hx, hb, hml, hown, hk⟩ (cM_fails1 l dC dI h0 th le fs 0 1) (cwV 3 hk (gV k77 k78 k79 k71 k80) rfl rfl rfl (by decide +kernel) ⟨Nat.le_of_ble_eq_true rfl, Nat.le_of_ble_eq_true rfl⟩) ⟨mB, va_recv hK hP (ci := 2) (q0 := 0) rfl rfl, mP hP hK⟩ rfl rfl hl.1 rfl (lv_room (Nat.le_of_ble_eq_true rfl)) dM_slope_31 ⟨Nat.le_of_ble_eq_true rfl, Nat.le_of_ble_eq_true rfl⟩) hS (fun q _ h => h) (fun q h => h) (fun r74 _ t H1 locs ht hvm hw hB hz1 hk1 hS => ?_)
      subst hw
      obtain ⟨hP, hK1⟩ := hB
      rw [ht] at hP
      generalize H1 = H at hP hS ⊢
      have hD : va_D (fun q : Nat => q = h0) (mW h0 1 le 0 fs) := mD
      refine lv_if_eq (tgt := 39) hx hb dM_slope_34 (by decide) (fun c75 => ?_) (fun c75 => ?_)
      · skip
        exact absurd c75 (by decide)
      · skip
        refine lv_iconst (v := 0) hx hb dM_slope_37 (by decide) ?_
        exact W.iret (v := 0) hx hb hr (fun t ht hW => ⟨⟨0, (), rfl, rfl, by rw [ht]; exact hP, va_K.moved hW.alike hK⟩, hS.F ht⟩) hS.2.2 dM_slope_38
set_option maxHeartbeats 4000000 in
set_option maxRecDepth 100000 in
theorem cM_content (l : Launch) (dC : Nat → ClassId) (dI : Nat → Nat → Nat) (h0 : Nat) (th le : Int32) (fs : List Value) (p0 : Int32) (p1 : Int32) : Met l yM_content wM_content ({ frames := 2, cells := 0, slots := 0, locals := 60 }) (va_Pc [.ref h0, .int p0, .int p1] (mU dC dI h0 th le fs)) (va_Qi (fun (r : Int32) (_ : Unit) => r = 0) (fun _ t => mU dC dI h0 1 le fs t) (fun q => q = h0)) 0 0 (fun q => q = h0) := by
  refine Met.ofW (cc := bM_content) (maxL := 5) (ret := (some .int)) (by decide) rfl ?_
  intro p e s m args below meth c s₁ B hml hv
  obtain ⟨rfl, hP, hK⟩ := hv
  have hx := B.exec
  have hb := B.bytes
  have hr := B.returns
  have hts := atoms_spec (ws := wM_content) B.pre
  have hk : ∀ w ∈ W0, w.before _ s = true := fun w h => hts w (List.mem_cons_of_mem _ h)
  have hown : s.vm.findClass "ImageGcdsModel" = some m.cls := findClass_of_methodNamed B.named
  have hlocks := B.notSynchronized
  have hD : va_D (fun q : Nat => q = h0) (mW h0 th le 0 fs) := mD
  have hS : va_S (fun q : Nat => q = h0) s.heap s.heap [] := va_S.rf
  have hl := lv_entry ([.ref h0, .int p0, .int p1]) (n := 5) (Nat.le_of_ble_eq_true rfl)
  rw [lg_entry_eq]
  generalize (lg_sl ([.ref h0, .int p0, .int p1]) ++ List.replicate (5 - (lg_sl ([.ref h0, .int p0, .int p1])).length) Slot.unset).toArray = ls at hl ⊢
  have hl : lv_has ls 5 [(0, .ref h0), (1, .int p0), (2, .int p1)] := hl
  refine lv_aload_n hx hb dM_content_0 rfl (lv_at hl 0 rfl) ?_
  refine lv_aload_n hx hb dM_content_1 rfl (lv_at hl 0 rfl) ?_
  refine lv_iload_n hx hb dM_content_2 rfl (lv_at hl 1 rfl) ?_
  refine vp_callSi (W.runV (As := [.int p0]) (rest := [.ref h0]) ⟨hx, hb, hml, hown, hk⟩ (cM_isPoly l dC dI h0 th le fs p0) (cwV 1 hk (gV k68 k69 k70 k71 k72) rfl rfl rfl (by decide +kernel) ⟨Nat.le_of_ble_eq_true rfl, Nat.le_of_ble_eq_true rfl⟩) ⟨mB, va_recv hK hP (ci := 2) (q0 := 0) rfl rfl, mP hP hK⟩ rfl rfl hl.1 rfl (lv_room (Nat.le_of_ble_eq_true rfl)) dM_content_3 ⟨Nat.le_of_ble_eq_true rfl, Nat.le_of_ble_eq_true rfl⟩) (fun r76 hw => ?_)
  subst hw
  refine lv_if_ne (tgt := 13) hx hb dM_content_6 (by decide) (fun c77 => ?_) (fun c77 => ?_)
  · skip
    exact absurd c77 (by decide)
  · skip
    refine lv_iconst (v := 1) hx hb dM_content_9 (by decide) ?_
    refine lv_goto (tgt := 14) hx hb dM_content_10 (by decide) ?_
    refine lv_aload_n hx hb dM_content_14 rfl (lv_at hl 0 rfl) ?_
    refine vp_callSi (W.runV (As := []) (rest := [.int 1, .ref h0]) ⟨hx, hb, hml, hown, hk⟩ (cM_isFull l dC dI h0 th le fs) (cwV 0 hk (gV k85 k86 k87 k71 k88) rfl rfl rfl (by decide +kernel) ⟨Nat.le_of_ble_eq_true rfl, Nat.le_of_ble_eq_true rfl⟩) ⟨mB, va_recv hK hP (ci := 2) (q0 := 0) rfl rfl, mP hP hK⟩ rfl rfl hl.1 rfl (lv_room (Nat.le_of_ble_eq_true rfl)) dM_content_15 ⟨Nat.le_of_ble_eq_true rfl, Nat.le_of_ble_eq_true rfl⟩) (fun r78 hw => ?_)
    subst hw
    refine lv_aload_n hx hb dM_content_18 rfl (lv_at hl 0 rfl) ?_
    refine lv_iload_n hx hb dM_content_19 rfl (lv_at hl 2 rfl) ?_
    refine vp_callSi (W.runV (As := [.int p1]) (rest := [.int 0, .int 1, .ref h0]) ⟨hx, hb, hml, hown, hk⟩ (cM_isLetter l dC dI h0 th le fs p1) (cwV 1 hk (gV k89 k90 k91 k71 k92) rfl rfl rfl (by decide +kernel) ⟨Nat.le_of_ble_eq_true rfl, Nat.le_of_ble_eq_true rfl⟩) ⟨mB, va_recv hK hP (ci := 2) (q0 := 0) rfl rfl, mP hP hK⟩ rfl rfl hl.1 rfl (lv_room (Nat.le_of_ble_eq_true rfl)) dM_content_20 ⟨Nat.le_of_ble_eq_true rfl, Nat.le_of_ble_eq_true rfl⟩) (fun r79 hw => ?_)
    refine lv_if_ne (tgt := 30) hx hb dM_content_23 (by decide) (fun c80 => ?_) (fun c80 => ?_)
    · skip
      refine lv_iconst (v := 0) hx hb dM_content_30 (by decide) ?_
      refine va_calli (va_runV (As := [.int 1, .int 0, .int 0]) (rest := []) ⟨hx, hb, hml, hown, hk⟩ (cM_fails1 l dC dI h0 th le fs 0 0) (cwV 3 hk (gV k77 k78 k79 k71 k80) rfl rfl rfl (by decide +kernel) ⟨Nat.le_of_ble_eq_true rfl, Nat.le_of_ble_eq_true rfl⟩) ⟨mB, va_recv hK hP (ci := 2) (q0 := 0) rfl rfl, mP hP hK⟩ rfl rfl hl.1 rfl (lv_room (Nat.le_of_ble_eq_true rfl)) dM_content_31 ⟨Nat.le_of_ble_eq_true rfl, Nat.le_of_ble_eq_true rfl⟩) hS (fun q _ h => h) (fun q h => h) (fun r81 _ t H1 locs ht hvm hw hB hz1 hk1 hS => ?_)
      subst hw
      obtain ⟨hP, hK1⟩ := hB
      rw [ht] at hP
      generalize H1 = H at hP hS ⊢
      have hD : va_D (fun q : Nat => q = h0) (mW h0 1 le 0 fs) := mD
      refine lv_if_eq (tgt := 39) hx hb dM_content_34 (by decide) (fun c82 => ?_) (fun c82 => ?_)
      · skip
        exact absurd c82 (by decide)
      · skip
        refine lv_iconst (v := 0) hx hb dM_content_37 (by decide) ?_
        exact W.iret (v := 0) hx hb hr (fun t ht hW => ⟨⟨0, (), rfl, rfl, by rw [ht]; exact hP, va_K.moved hW.alike hK⟩, hS.F ht⟩) hS.2.2 dM_content_38
    · skip
      refine lv_iconst (v := 1) hx hb dM_content_26 (by decide) ?_
      refine lv_goto (tgt := 31) hx hb dM_content_27 (by decide) ?_
      refine va_calli (va_runV (As := [.int 1, .int 0, .int 1]) (rest := []) ⟨hx, hb, hml, hown, hk⟩ (cM_fails1 l dC dI h0 th le fs 0 1) (cwV 3 hk (gV k77 k78 k79 k71 k80) rfl rfl rfl (by decide +kernel) ⟨Nat.le_of_ble_eq_true rfl, Nat.le_of_ble_eq_true rfl⟩) ⟨mB, va_recv hK hP (ci := 2) (q0 := 0) rfl rfl, mP hP hK⟩ rfl rfl hl.1 rfl (lv_room (Nat.le_of_ble_eq_true rfl)) dM_content_31 ⟨Nat.le_of_ble_eq_true rfl, Nat.le_of_ble_eq_true rfl⟩) hS (fun q _ h => h) (fun q h => h) (fun r83 _ t H1 locs ht hvm hw hB hz1 hk1 hS => ?_)
      subst hw
      obtain ⟨hP, hK1⟩ := hB
      rw [ht] at hP
      generalize H1 = H at hP hS ⊢
      have hD : va_D (fun q : Nat => q = h0) (mW h0 1 le 0 fs) := mD
      refine lv_if_eq (tgt := 39) hx hb dM_content_34 (by decide) (fun c84 => ?_) (fun c84 => ?_)
      · skip
        exact absurd c84 (by decide)
      · skip
        refine lv_iconst (v := 0) hx hb dM_content_37 (by decide) ?_
        exact W.iret (v := 0) hx hb hr (fun t ht hW => ⟨⟨0, (), rfl, rfl, by rw [ht]; exact hP, va_K.moved hW.alike hK⟩, hS.F ht⟩) hS.2.2 dM_content_38
set_option maxHeartbeats 4000000 in
set_option maxRecDepth 100000 in
theorem cM_part (l : Launch) (dC : Nat → ClassId) (dI : Nat → Nat → Nat) (h0 : Nat) (th le : Int32) (fs : List Value) (p0 : Int32) (p1 : Int32) : Met l yM_part wM_part ({ frames := 2, cells := 0, slots := 0, locals := 60 }) (va_Pc [.ref h0, .int p0, .int p1] (mU dC dI h0 th le fs)) (va_Qi (fun (r : Int32) (_ : Unit) => r = 0) (fun _ t => mU dC dI h0 1 le fs t) (fun q => q = h0)) 0 0 (fun q => q = h0) := by
  refine Met.ofW (cc := bM_part) (maxL := 7) (ret := (some .int)) (by decide) rfl ?_
  intro p e s m args below meth c s₁ B hml hv
  obtain ⟨rfl, hP, hK⟩ := hv
  have hx := B.exec
  have hb := B.bytes
  have hr := B.returns
  have hts := atoms_spec (ws := wM_part) B.pre
  have hk : ∀ w ∈ W0, w.before _ s = true := fun w h => hts w (List.mem_cons_of_mem _ h)
  have hown : s.vm.findClass "ImageGcdsModel" = some m.cls := findClass_of_methodNamed B.named
  have hlocks := B.notSynchronized
  have hD : va_D (fun q : Nat => q = h0) (mW h0 th le 0 fs) := mD
  have hS : va_S (fun q : Nat => q = h0) s.heap s.heap [] := va_S.rf
  have hl := lv_entry ([.ref h0, .int p0, .int p1]) (n := 7) (Nat.le_of_ble_eq_true rfl)
  rw [lg_entry_eq]
  generalize (lg_sl ([.ref h0, .int p0, .int p1]) ++ List.replicate (7 - (lg_sl ([.ref h0, .int p0, .int p1])).length) Slot.unset).toArray = ls at hl ⊢
  have hl : lv_has ls 7 [(0, .ref h0), (1, .int p0), (2, .int p1)] := hl
  refine lv_aload_n hx hb dM_part_0 rfl (lv_at hl 0 rfl) ?_
  refine lv_iload_n hx hb dM_part_1 rfl (lv_at hl 1 rfl) ?_
  refine vp_callSi (W.runV (As := [.int p0]) (rest := []) ⟨hx, hb, hml, hown, hk⟩ (cM_isPoly l dC dI h0 th le fs p0) (cwV 1 hk (gV k68 k69 k70 k71 k72) rfl rfl rfl (by decide +kernel) ⟨Nat.le_of_ble_eq_true rfl, Nat.le_of_ble_eq_true rfl⟩) ⟨mB, va_recv hK hP (ci := 2) (q0 := 0) rfl rfl, mP hP hK⟩ rfl rfl hl.1 rfl (lv_room (Nat.le_of_ble_eq_true rfl)) dM_part_2 ⟨Nat.le_of_ble_eq_true rfl, Nat.le_of_ble_eq_true rfl⟩) (fun r85 hw => ?_)
  subst hw
  refine lv_if_ne (tgt := 12) hx hb dM_part_5 (by decide) (fun c86 => ?_) (fun c86 => ?_)
  · skip
    exact absurd c86 (by decide)
  · skip
    refine lv_iconst (v := 1) hx hb dM_part_8 (by decide) ?_
    refine lv_goto (tgt := 13) hx hb dM_part_9 (by decide) ?_
    refine lv_istore_n (lv' := [(3, .int 1), (0, .ref h0), (1, .int p0), (2, .int p1)]) hx hb dM_part_13 rfl hl (by decide) rfl (fun ls hl => ?_)
    refine lv_iload_n hx hb dM_part_14 rfl (lv_at hl 0 rfl) ?_
    refine lv_if_ne (tgt := 41) hx hb dM_part_15 (by decide) (fun c87 => ?_) (fun c87 => ?_)
    · skip
      refine lv_iconst (v := 0) hx hb dM_part_41 (by decide) ?_
      refine lv_istore (lv' := [(4, .int 0), (3, .int 1), (0, .ref h0), (1, .int p0), (2, .int p1)]) hx hb dM_part_42 hl (by decide) rfl (fun ls hl => ?_)
      refine lv_aload_n hx hb dM_part_44 rfl (lv_at hl 2 rfl) ?_
      refine lv_iload_n hx hb dM_part_45 rfl (lv_at hl 1 rfl) ?_
      refine lv_aload_n hx hb dM_part_46 rfl (lv_at hl 2 rfl) ?_
      refine vp_callSi (W.runV (As := []) (rest := [.int 1, .ref h0]) ⟨hx, hb, hml, hown, hk⟩ (cM_isFull l dC dI h0 th le fs) (cwV 0 hk (gV k85 k86 k87 k71 k88) rfl rfl rfl (by decide +kernel) ⟨Nat.le_of_ble_eq_true rfl, Nat.le_of_ble_eq_true rfl⟩) ⟨mB, va_recv hK hP (ci := 2) (q0 := 0) rfl rfl, mP hP hK⟩ rfl rfl hl.1 rfl (lv_room (Nat.le_of_ble_eq_true rfl)) dM_part_47 ⟨Nat.le_of_ble_eq_true rfl, Nat.le_of_ble_eq_true rfl⟩) (fun r88 hw => ?_)
      subst hw
      refine lv_iload hx hb dM_part_50 (lv_at hl 0 rfl) ?_
      refine va_calli (va_runV (As := [.int 1, .int 0, .int 0]) (rest := []) ⟨hx, hb, hml, hown, hk⟩ (cM_fails1 l dC dI h0 th le fs 0 0) (cwV 3 hk (gV k77 k78 k79 k71 k80) rfl rfl rfl (by decide +kernel) ⟨Nat.le_of_ble_eq_true rfl, Nat.le_of_ble_eq_true rfl⟩) ⟨mB, va_recv hK hP (ci := 2) (q0 := 0) rfl rfl, mP hP hK⟩ rfl rfl hl.1 rfl (lv_room (Nat.le_of_ble_eq_true rfl)) dM_part_52 ⟨Nat.le_of_ble_eq_true rfl, Nat.le_of_ble_eq_true rfl⟩) hS (fun q _ h => h) (fun q h => h) (fun r89 _ t H1 locs ht hvm hw hB hz1 hk1 hS => ?_)
      subst hw
      obtain ⟨hP, hK1⟩ := hB
      rw [ht] at hP
      generalize H1 = H at hP hS ⊢
      have hD : va_D (fun q : Nat => q = h0) (mW h0 1 le 0 fs) := mD
      refine lv_if_eq (tgt := 60) hx hb dM_part_55 (by decide) (fun c90 => ?_) (fun c90 => ?_)
      · skip
        exact absurd c90 (by decide)
      · skip
        refine lv_iconst (v := 0) hx hb dM_part_58 (by decide) ?_
        exact W.iret (v := 0) hx hb hr (fun t ht hW => ⟨⟨0, (), rfl, rfl, by rw [ht]; exact hP, va_K.moved hW.alike hK⟩, hS.F ht⟩) hS.2.2 dM_part_59
    · skip
      exact absurd c87 (by decide)
set_option maxHeartbeats 4000000 in
set_option maxRecDepth 100000 in
theorem cM_image (l : Launch) (dC : Nat → ClassId) (dI : Nat → Nat → Nat) (h0 : Nat) (th le : Int32) (fs : List Value) (p0 : Int32) (p1 : Int32) (p2 : Int32) : Met l yM_image wM_image ({ frames := 2, cells := 0, slots := 0, locals := 60 }) (va_Pc [.ref h0, .int p0, .int p1, .int p2] (mU dC dI h0 th le fs)) (va_Qi (fun (r : Int32) (_ : Unit) => r = 0) (fun _ t => mU dC dI h0 1 le fs t) (fun q => q = h0)) 0 0 (fun q => q = h0) := by
  refine Met.ofW (cc := bM_image) (maxL := 10) (ret := (some .int)) (by decide) rfl ?_
  intro p e s m args below meth c s₁ B hml hv
  obtain ⟨rfl, hP, hK⟩ := hv
  have hx := B.exec
  have hb := B.bytes
  have hr := B.returns
  have hts := atoms_spec (ws := wM_image) B.pre
  have hk : ∀ w ∈ W0, w.before _ s = true := fun w h => hts w (List.mem_cons_of_mem _ h)
  have hown : s.vm.findClass "ImageGcdsModel" = some m.cls := findClass_of_methodNamed B.named
  have hlocks := B.notSynchronized
  have hD : va_D (fun q : Nat => q = h0) (mW h0 th le 0 fs) := mD
  have hS : va_S (fun q : Nat => q = h0) s.heap s.heap [] := va_S.rf
  have hl := lv_entry ([.ref h0, .int p0, .int p1, .int p2]) (n := 10) (Nat.le_of_ble_eq_true rfl)
  rw [lg_entry_eq]
  generalize (lg_sl ([.ref h0, .int p0, .int p1, .int p2]) ++ List.replicate (10 - (lg_sl ([.ref h0, .int p0, .int p1, .int p2])).length) Slot.unset).toArray = ls at hl ⊢
  have hl : lv_has ls 10 [(0, .ref h0), (1, .int p0), (2, .int p1), (3, .int p2)] := hl
  refine lv_aload_n hx hb dM_image_0 rfl (lv_at hl 0 rfl) ?_
  refine lv_aload_n hx hb dM_image_1 rfl (lv_at hl 0 rfl) ?_
  refine lv_iload_n hx hb dM_image_2 rfl (lv_at hl 1 rfl) ?_
  refine vp_callSi (W.runV (As := [.int p0]) (rest := [.ref h0]) ⟨hx, hb, hml, hown, hk⟩ (cM_isPoly l dC dI h0 th le fs p0) (cwV 1 hk (gV k68 k69 k70 k71 k72) rfl rfl rfl (by decide +kernel) ⟨Nat.le_of_ble_eq_true rfl, Nat.le_of_ble_eq_true rfl⟩) ⟨mB, va_recv hK hP (ci := 2) (q0 := 0) rfl rfl, mP hP hK⟩ rfl rfl hl.1 rfl (lv_room (Nat.le_of_ble_eq_true rfl)) dM_image_3 ⟨Nat.le_of_ble_eq_true rfl, Nat.le_of_ble_eq_true rfl⟩) (fun r91 hw => ?_)
  subst hw
  refine lv_if_ne (tgt := 13) hx hb dM_image_6 (by decide) (fun c92 => ?_) (fun c92 => ?_)
  · skip
    exact absurd c92 (by decide)
  · skip
    refine lv_iconst (v := 1) hx hb dM_image_9 (by decide) ?_
    refine lv_goto (tgt := 14) hx hb dM_image_10 (by decide) ?_
    refine lv_aload_n hx hb dM_image_14 rfl (lv_at hl 0 rfl) ?_
    refine vp_callSi (W.runV (As := []) (rest := [.int 1, .ref h0]) ⟨hx, hb, hml, hown, hk⟩ (cM_isFull l dC dI h0 th le fs) (cwV 0 hk (gV k85 k86 k87 k71 k88) rfl rfl rfl (by decide +kernel) ⟨Nat.le_of_ble_eq_true rfl, Nat.le_of_ble_eq_true rfl⟩) ⟨mB, va_recv hK hP (ci := 2) (q0 := 0) rfl rfl, mP hP hK⟩ rfl rfl hl.1 rfl (lv_room (Nat.le_of_ble_eq_true rfl)) dM_image_15 ⟨Nat.le_of_ble_eq_true rfl, Nat.le_of_ble_eq_true rfl⟩) (fun r93 hw => ?_)
    subst hw
    refine lv_aload_n hx hb dM_image_18 rfl (lv_at hl 0 rfl) ?_
    refine lv_iload_n hx hb dM_image_19 rfl (lv_at hl 2 rfl) ?_
    refine vp_callSi (W.runV (As := [.int p1]) (rest := [.int 0, .int 1, .ref h0]) ⟨hx, hb, hml, hown, hk⟩ (cM_isLetter l dC dI h0 th le fs p1) (cwV 1 hk (gV k89 k90 k91 k71 k92) rfl rfl rfl (by decide +kernel) ⟨Nat.le_of_ble_eq_true rfl, Nat.le_of_ble_eq_true rfl⟩) ⟨mB, va_recv hK hP (ci := 2) (q0 := 0) rfl rfl, mP hP hK⟩ rfl rfl hl.1 rfl (lv_room (Nat.le_of_ble_eq_true rfl)) dM_image_20 ⟨Nat.le_of_ble_eq_true rfl, Nat.le_of_ble_eq_true rfl⟩) (fun r94 hw => ?_)
    refine lv_if_ne (tgt := 30) hx hb dM_image_23 (by decide) (fun c95 => ?_) (fun c95 => ?_)
    · skip
      refine lv_iconst (v := 0) hx hb dM_image_30 (by decide) ?_
      refine va_calli (va_runV (As := [.int 1, .int 0, .int 0]) (rest := []) ⟨hx, hb, hml, hown, hk⟩ (cM_fails1 l dC dI h0 th le fs 0 0) (cwV 3 hk (gV k77 k78 k79 k71 k80) rfl rfl rfl (by decide +kernel) ⟨Nat.le_of_ble_eq_true rfl, Nat.le_of_ble_eq_true rfl⟩) ⟨mB, va_recv hK hP (ci := 2) (q0 := 0) rfl rfl, mP hP hK⟩ rfl rfl hl.1 rfl (lv_room (Nat.le_of_ble_eq_true rfl)) dM_image_31 ⟨Nat.le_of_ble_eq_true rfl, Nat.le_of_ble_eq_true rfl⟩) hS (fun q _ h => h) (fun q h => h) (fun r96 _ t H1 locs ht hvm hw hB hz1 hk1 hS => ?_)
      subst hw
      obtain ⟨hP, hK1⟩ := hB
      rw [ht] at hP
      generalize H1 = H at hP hS ⊢
      have hD : va_D (fun q : Nat => q = h0) (mW h0 1 le 0 fs) := mD
      refine lv_if_eq (tgt := 39) hx hb dM_image_34 (by decide) (fun c97 => ?_) (fun c97 => ?_)
      · skip
        exact absurd c97 (by decide)
      · skip
        refine lv_iconst (v := 0) hx hb dM_image_37 (by decide) ?_
        exact W.iret (v := 0) hx hb hr (fun t ht hW => ⟨⟨0, (), rfl, rfl, by rw [ht]; exact hP, va_K.moved hW.alike hK⟩, hS.F ht⟩) hS.2.2 dM_image_38
    · skip
      refine lv_iconst (v := 1) hx hb dM_image_26 (by decide) ?_
      refine lv_goto (tgt := 31) hx hb dM_image_27 (by decide) ?_
      refine va_calli (va_runV (As := [.int 1, .int 0, .int 1]) (rest := []) ⟨hx, hb, hml, hown, hk⟩ (cM_fails1 l dC dI h0 th le fs 0 1) (cwV 3 hk (gV k77 k78 k79 k71 k80) rfl rfl rfl (by decide +kernel) ⟨Nat.le_of_ble_eq_true rfl, Nat.le_of_ble_eq_true rfl⟩) ⟨mB, va_recv hK hP (ci := 2) (q0 := 0) rfl rfl, mP hP hK⟩ rfl rfl hl.1 rfl (lv_room (Nat.le_of_ble_eq_true rfl)) dM_image_31 ⟨Nat.le_of_ble_eq_true rfl, Nat.le_of_ble_eq_true rfl⟩) hS (fun q _ h => h) (fun q h => h) (fun r98 _ t H1 locs ht hvm hw hB hz1 hk1 hS => ?_)
      subst hw
      obtain ⟨hP, hK1⟩ := hB
      rw [ht] at hP
      generalize H1 = H at hP hS ⊢
      have hD : va_D (fun q : Nat => q = h0) (mW h0 1 le 0 fs) := mD
      refine lv_if_eq (tgt := 39) hx hb dM_image_34 (by decide) (fun c99 => ?_) (fun c99 => ?_)
      · skip
        exact absurd c99 (by decide)
      · skip
        refine lv_iconst (v := 0) hx hb dM_image_37 (by decide) ?_
        exact W.iret (v := 0) hx hb hr (fun t ht hW => ⟨⟨0, (), rfl, rfl, by rw [ht]; exact hP, va_K.moved hW.alike hK⟩, hS.F ht⟩) hS.2.2 dM_image_38
set_option maxHeartbeats 4000000 in
set_option maxRecDepth 100000 in
theorem cM_equal (l : Launch) (dC : Nat → ClassId) (dI : Nat → Nat → Nat) (h0 : Nat) (th le : Int32) (fs : List Value) (p0 : Int32) (p1 : Int32) : Met l yM_equal wM_equal ({ frames := 2, cells := 0, slots := 0, locals := 60 }) (va_Pc [.ref h0, .int p0, .int p1] (mU dC dI h0 th le fs)) (va_Qi (fun (r : Int32) (_ : Unit) => r = 0) (fun _ t => mU dC dI h0 1 le fs t) (fun q => q = h0)) 0 0 (fun q => q = h0) := by
  refine Met.ofW (cc := bM_equal) (maxL := 5) (ret := (some .boolean)) (by decide) rfl ?_
  intro p e s m args below meth c s₁ B hml hv
  obtain ⟨rfl, hP, hK⟩ := hv
  have hx := B.exec
  have hb := B.bytes
  have hr := B.returns
  have hts := atoms_spec (ws := wM_equal) B.pre
  have hk : ∀ w ∈ W0, w.before _ s = true := fun w h => hts w (List.mem_cons_of_mem _ h)
  have hown : s.vm.findClass "ImageGcdsModel" = some m.cls := findClass_of_methodNamed B.named
  have hlocks := B.notSynchronized
  have hD : va_D (fun q : Nat => q = h0) (mW h0 th le 0 fs) := mD
  have hS : va_S (fun q : Nat => q = h0) s.heap s.heap [] := va_S.rf
  have hl := lv_entry ([.ref h0, .int p0, .int p1]) (n := 5) (Nat.le_of_ble_eq_true rfl)
  rw [lg_entry_eq]
  generalize (lg_sl ([.ref h0, .int p0, .int p1]) ++ List.replicate (5 - (lg_sl ([.ref h0, .int p0, .int p1])).length) Slot.unset).toArray = ls at hl ⊢
  have hl : lv_has ls 5 [(0, .ref h0), (1, .int p0), (2, .int p1)] := hl
  refine lv_aload_n hx hb dM_equal_0 rfl (lv_at hl 0 rfl) ?_
  refine lv_aload_n hx hb dM_equal_1 rfl (lv_at hl 0 rfl) ?_
  refine lv_iload_n hx hb dM_equal_2 rfl (lv_at hl 1 rfl) ?_
  refine lv_iload_n hx hb dM_equal_3 rfl (lv_at hl 2 rfl) ?_
  refine vp_callSi (W.runV (As := [.int p0, .int p1]) (rest := [.ref h0]) ⟨hx, hb, hml, hown, hk⟩ (cM_areNot l dC dI h0 th le fs p0 p1) (cwV 2 hk (gV k81 k82 k83 k71 k84) rfl rfl rfl (by decide +kernel) ⟨Nat.le_of_ble_eq_true rfl, Nat.le_of_ble_eq_true rfl⟩) ⟨mB, va_recv hK hP (ci := 2) (q0 := 0) rfl rfl, mP hP hK⟩ rfl rfl hl.1 rfl (lv_room (Nat.le_of_ble_eq_true rfl)) dM_equal_4 ⟨Nat.le_of_ble_eq_true rfl, Nat.le_of_ble_eq_true rfl⟩) (fun r100 hw => ?_)
  subst hw
  refine lv_iconst (v := 0) hx hb dM_equal_7 (by decide) ?_
  refine lv_iconst (v := 0) hx hb dM_equal_8 (by decide) ?_
  refine va_calli (va_runV (As := [.int 1, .int 0, .int 0]) (rest := []) ⟨hx, hb, hml, hown, hk⟩ (cM_fails1 l dC dI h0 th le fs 0 0) (cwV 3 hk (gV k77 k78 k79 k71 k80) rfl rfl rfl (by decide +kernel) ⟨Nat.le_of_ble_eq_true rfl, Nat.le_of_ble_eq_true rfl⟩) ⟨mB, va_recv hK hP (ci := 2) (q0 := 0) rfl rfl, mP hP hK⟩ rfl rfl hl.1 rfl (lv_room (Nat.le_of_ble_eq_true rfl)) dM_equal_9 ⟨Nat.le_of_ble_eq_true rfl, Nat.le_of_ble_eq_true rfl⟩) hS (fun q _ h => h) (fun q h => h) (fun r101 _ t H1 locs ht hvm hw hB hz1 hk1 hS => ?_)
  subst hw
  obtain ⟨hP, hK1⟩ := hB
  rw [ht] at hP
  generalize H1 = H at hP hS ⊢
  have hD : va_D (fun q : Nat => q = h0) (mW h0 1 le 0 fs) := mD
  refine lv_if_eq (tgt := 17) hx hb dM_equal_12 (by decide) (fun c102 => ?_) (fun c102 => ?_)
  · skip
    exact absurd c102 (by decide)
  · skip
    refine lv_iconst (v := 0) hx hb dM_equal_15 (by decide) ?_
    exact W.zret (v := 0) hx hb hr rfl (fun t ht hW => ⟨⟨0, (), rfl, rfl, by rw [ht]; exact hP, va_K.moved hW.alike hK⟩, hS.F ht⟩) hS.2.2 dM_equal_16
set_option maxHeartbeats 4000000 in
set_option maxRecDepth 100000 in
theorem cM_terms (l : Launch) (dC : Nat → ClassId) (dI : Nat → Nat → Nat) (h0 : Nat) (th le : Int32) (fs : List Value) (p0 : Int32) : Met l yM_terms wM_terms ({ frames := 2, cells := 0, slots := 0, locals := 60 }) (va_Pc [.ref h0, .int p0] (mU dC dI h0 th le fs)) (va_Qi (fun (r : Int32) (_ : Unit) => r = 0) (fun _ t => mU dC dI h0 1 le fs t) (fun q => q = h0)) 0 0 (fun q => q = h0) := by
  refine Met.ofW (cc := bM_terms) (maxL := 2) (ret := (some .int)) (by decide) rfl ?_
  intro p e s m args below meth c s₁ B hml hv
  obtain ⟨rfl, hP, hK⟩ := hv
  have hx := B.exec
  have hb := B.bytes
  have hr := B.returns
  have hts := atoms_spec (ws := wM_terms) B.pre
  have hk : ∀ w ∈ W0, w.before _ s = true := fun w h => hts w (List.mem_cons_of_mem _ h)
  have hown : s.vm.findClass "ImageGcdsModel" = some m.cls := findClass_of_methodNamed B.named
  have hlocks := B.notSynchronized
  have hD : va_D (fun q : Nat => q = h0) (mW h0 th le 0 fs) := mD
  have hS : va_S (fun q : Nat => q = h0) s.heap s.heap [] := va_S.rf
  have hl := lv_entry ([.ref h0, .int p0]) (n := 2) (Nat.le_of_ble_eq_true rfl)
  rw [lg_entry_eq]
  generalize (lg_sl ([.ref h0, .int p0]) ++ List.replicate (2 - (lg_sl ([.ref h0, .int p0])).length) Slot.unset).toArray = ls at hl ⊢
  have hl : lv_has ls 2 [(0, .ref h0), (1, .int p0)] := hl
  refine lv_aload_n hx hb dM_terms_0 rfl (lv_at hl 0 rfl) ?_
  refine lv_aload_n hx hb dM_terms_1 rfl (lv_at hl 0 rfl) ?_
  refine lv_iload_n hx hb dM_terms_2 rfl (lv_at hl 1 rfl) ?_
  refine vp_callSi (W.runV (As := [.int p0]) (rest := [.ref h0]) ⟨hx, hb, hml, hown, hk⟩ (cM_isPoly l dC dI h0 th le fs p0) (cwV 1 hk (gV k68 k69 k70 k71 k72) rfl rfl rfl (by decide +kernel) ⟨Nat.le_of_ble_eq_true rfl, Nat.le_of_ble_eq_true rfl⟩) ⟨mB, va_recv hK hP (ci := 2) (q0 := 0) rfl rfl, mP hP hK⟩ rfl rfl hl.1 rfl (lv_room (Nat.le_of_ble_eq_true rfl)) dM_terms_3 ⟨Nat.le_of_ble_eq_true rfl, Nat.le_of_ble_eq_true rfl⟩) (fun r103 hw => ?_)
  subst hw
  refine lv_if_ne (tgt := 13) hx hb dM_terms_6 (by decide) (fun c104 => ?_) (fun c104 => ?_)
  · skip
    exact absurd c104 (by decide)
  · skip
    refine lv_iconst (v := 1) hx hb dM_terms_9 (by decide) ?_
    refine lv_goto (tgt := 14) hx hb dM_terms_10 (by decide) ?_
    refine lv_iconst (v := 0) hx hb dM_terms_14 (by decide) ?_
    refine lv_iconst (v := 0) hx hb dM_terms_15 (by decide) ?_
    refine va_calli (va_runV (As := [.int 1, .int 0, .int 0]) (rest := []) ⟨hx, hb, hml, hown, hk⟩ (cM_fails1 l dC dI h0 th le fs 0 0) (cwV 3 hk (gV k77 k78 k79 k71 k80) rfl rfl rfl (by decide +kernel) ⟨Nat.le_of_ble_eq_true rfl, Nat.le_of_ble_eq_true rfl⟩) ⟨mB, va_recv hK hP (ci := 2) (q0 := 0) rfl rfl, mP hP hK⟩ rfl rfl hl.1 rfl (lv_room (Nat.le_of_ble_eq_true rfl)) dM_terms_16 ⟨Nat.le_of_ble_eq_true rfl, Nat.le_of_ble_eq_true rfl⟩) hS (fun q _ h => h) (fun q h => h) (fun r105 _ t H1 locs ht hvm hw hB hz1 hk1 hS => ?_)
    subst hw
    obtain ⟨hP, hK1⟩ := hB
    rw [ht] at hP
    generalize H1 = H at hP hS ⊢
    have hD : va_D (fun q : Nat => q = h0) (mW h0 1 le 0 fs) := mD
    refine lv_if_eq (tgt := 24) hx hb dM_terms_19 (by decide) (fun c106 => ?_) (fun c106 => ?_)
    · skip
      exact absurd c106 (by decide)
    · skip
      refine lv_iconst (v := 0) hx hb dM_terms_22 (by decide) ?_
      exact W.iret (v := 0) hx hb hr (fun t ht hW => ⟨⟨0, (), rfl, rfl, by rw [ht]; exact hP, va_K.moved hW.alike hK⟩, hS.F ht⟩) hS.2.2 dM_terms_23
set_option maxHeartbeats 4000000 in
set_option maxRecDepth 100000 in
theorem cM_at (l : Launch) (dC : Nat → ClassId) (dI : Nat → Nat → Nat) (h0 : Nat) (th le : Int32) (fs : List Value) (p0 : Int32) (p1 : Int32) (p2 : Int32) : Met l yM_at wM_at ({ frames := 2, cells := 0, slots := 0, locals := 60 }) (va_Pc [.ref h0, .int p0, .int p1, .int p2] (mU dC dI h0 th le fs)) (va_Qi (fun (r : Int32) (_ : Unit) => r = 0) (fun _ t => mU dC dI h0 1 le fs t) (fun q => q = h0)) 0 0 (fun q => q = h0) := by
  refine Met.ofW (cc := bM_at) (maxL := 9) (ret := (some .int)) (by decide) rfl ?_
  intro p e s m args below meth c s₁ B hml hv
  obtain ⟨rfl, hP, hK⟩ := hv
  have hx := B.exec
  have hb := B.bytes
  have hr := B.returns
  have hts := atoms_spec (ws := wM_at) B.pre
  have hk : ∀ w ∈ W0, w.before _ s = true := fun w h => hts w (List.mem_cons_of_mem _ h)
  have hown : s.vm.findClass "ImageGcdsModel" = some m.cls := findClass_of_methodNamed B.named
  have hlocks := B.notSynchronized
  have hD : va_D (fun q : Nat => q = h0) (mW h0 th le 0 fs) := mD
  have hS : va_S (fun q : Nat => q = h0) s.heap s.heap [] := va_S.rf
  have hl := lv_entry ([.ref h0, .int p0, .int p1, .int p2]) (n := 9) (Nat.le_of_ble_eq_true rfl)
  rw [lg_entry_eq]
  generalize (lg_sl ([.ref h0, .int p0, .int p1, .int p2]) ++ List.replicate (9 - (lg_sl ([.ref h0, .int p0, .int p1, .int p2])).length) Slot.unset).toArray = ls at hl ⊢
  have hl : lv_has ls 9 [(0, .ref h0), (1, .int p0), (2, .int p1), (3, .int p2)] := hl
  refine lv_aload_n hx hb dM_at_0 rfl (lv_at hl 0 rfl) ?_
  refine lv_iload_n hx hb dM_at_1 rfl (lv_at hl 1 rfl) ?_
  refine vp_callSi (W.runV (As := [.int p0]) (rest := []) ⟨hx, hb, hml, hown, hk⟩ (cM_isPoly l dC dI h0 th le fs p0) (cwV 1 hk (gV k68 k69 k70 k71 k72) rfl rfl rfl (by decide +kernel) ⟨Nat.le_of_ble_eq_true rfl, Nat.le_of_ble_eq_true rfl⟩) ⟨mB, va_recv hK hP (ci := 2) (q0 := 0) rfl rfl, mP hP hK⟩ rfl rfl hl.1 rfl (lv_room (Nat.le_of_ble_eq_true rfl)) dM_at_2 ⟨Nat.le_of_ble_eq_true rfl, Nat.le_of_ble_eq_true rfl⟩) (fun r107 hw => ?_)
  subst hw
  refine lv_if_ne (tgt := 12) hx hb dM_at_5 (by decide) (fun c108 => ?_) (fun c108 => ?_)
  · skip
    exact absurd c108 (by decide)
  · skip
    refine lv_iconst (v := 1) hx hb dM_at_8 (by decide) ?_
    refine lv_goto (tgt := 13) hx hb dM_at_9 (by decide) ?_
    refine lv_istore (lv' := [(4, .int 1), (0, .ref h0), (1, .int p0), (2, .int p1), (3, .int p2)]) hx hb dM_at_13 hl (by decide) rfl (fun ls hl => ?_)
    refine lv_aload_n hx hb dM_at_15 rfl (lv_at hl 1 rfl) ?_
    refine lv_iload hx hb dM_at_16 (lv_at hl 0 rfl) ?_
    refine lv_iload hx hb dM_at_18 (lv_at hl 0 rfl) ?_
    refine lv_if_ne (tgt := 49) hx hb dM_at_20 (by decide) (fun c109 => ?_) (fun c109 => ?_)
    · skip
      refine lv_iconst (v := 0) hx hb dM_at_49 (by decide) ?_
      refine lv_iconst (v := 0) hx hb dM_at_50 (by decide) ?_
      refine va_calli (va_runV (As := [.int 1, .int 0, .int 0]) (rest := []) ⟨hx, hb, hml, hown, hk⟩ (cM_fails1 l dC dI h0 th le fs 0 0) (cwV 3 hk (gV k77 k78 k79 k71 k80) rfl rfl rfl (by decide +kernel) ⟨Nat.le_of_ble_eq_true rfl, Nat.le_of_ble_eq_true rfl⟩) ⟨mB, va_recv hK hP (ci := 2) (q0 := 0) rfl rfl, mP hP hK⟩ rfl rfl hl.1 rfl (lv_room (Nat.le_of_ble_eq_true rfl)) dM_at_51 ⟨Nat.le_of_ble_eq_true rfl, Nat.le_of_ble_eq_true rfl⟩) hS (fun q _ h => h) (fun q h => h) (fun r110 _ t H1 locs ht hvm hw hB hz1 hk1 hS => ?_)
      subst hw
      obtain ⟨hP, hK1⟩ := hB
      rw [ht] at hP
      generalize H1 = H at hP hS ⊢
      have hD : va_D (fun q : Nat => q = h0) (mW h0 1 le 0 fs) := mD
      refine lv_if_eq (tgt := 59) hx hb dM_at_54 (by decide) (fun c111 => ?_) (fun c111 => ?_)
      · skip
        exact absurd c111 (by decide)
      · skip
        refine lv_iconst (v := 0) hx hb dM_at_57 (by decide) ?_
        exact W.iret (v := 0) hx hb hr (fun t ht hW => ⟨⟨0, (), rfl, rfl, by rw [ht]; exact hP, va_K.moved hW.alike hK⟩, hS.F ht⟩) hS.2.2 dM_at_58
    · skip
      exact absurd c109 (by decide)
set_option maxHeartbeats 4000000 in
set_option maxRecDepth 100000 in
theorem cM_degree (l : Launch) (dC : Nat → ClassId) (dI : Nat → Nat → Nat) (h0 : Nat) (th le : Int32) (fs : List Value) (p0 : Int32) (p1 : Int32) : Met l yM_degree wM_degree ({ frames := 2, cells := 0, slots := 0, locals := 60 }) (va_Pc [.ref h0, .int p0, .int p1] (mU dC dI h0 th le fs)) (va_Qi (fun (r : Int32) (_ : Unit) => r = 0) (fun _ t => mU dC dI h0 1 le fs t) (fun q => q = h0)) 0 0 (fun q => q = h0) := by
  refine Met.ofW (cc := bM_degree) (maxL := 4) (ret := (some .int)) (by decide) rfl ?_
  intro p e s m args below meth c s₁ B hml hv
  obtain ⟨rfl, hP, hK⟩ := hv
  have hx := B.exec
  have hb := B.bytes
  have hr := B.returns
  have hts := atoms_spec (ws := wM_degree) B.pre
  have hk : ∀ w ∈ W0, w.before _ s = true := fun w h => hts w (List.mem_cons_of_mem _ h)
  have hown : s.vm.findClass "ImageGcdsModel" = some m.cls := findClass_of_methodNamed B.named
  have hlocks := B.notSynchronized
  have hD : va_D (fun q : Nat => q = h0) (mW h0 th le 0 fs) := mD
  have hS : va_S (fun q : Nat => q = h0) s.heap s.heap [] := va_S.rf
  have hl := lv_entry ([.ref h0, .int p0, .int p1]) (n := 4) (Nat.le_of_ble_eq_true rfl)
  rw [lg_entry_eq]
  generalize (lg_sl ([.ref h0, .int p0, .int p1]) ++ List.replicate (4 - (lg_sl ([.ref h0, .int p0, .int p1])).length) Slot.unset).toArray = ls at hl ⊢
  have hl : lv_has ls 4 [(0, .ref h0), (1, .int p0), (2, .int p1)] := hl
  refine lv_aload_n hx hb dM_degree_0 rfl (lv_at hl 0 rfl) ?_
  refine lv_iload_n hx hb dM_degree_1 rfl (lv_at hl 1 rfl) ?_
  refine vp_callSi (W.runV (As := [.int p0]) (rest := []) ⟨hx, hb, hml, hown, hk⟩ (cM_isPoly l dC dI h0 th le fs p0) (cwV 1 hk (gV k68 k69 k70 k71 k72) rfl rfl rfl (by decide +kernel) ⟨Nat.le_of_ble_eq_true rfl, Nat.le_of_ble_eq_true rfl⟩) ⟨mB, va_recv hK hP (ci := 2) (q0 := 0) rfl rfl, mP hP hK⟩ rfl rfl hl.1 rfl (lv_room (Nat.le_of_ble_eq_true rfl)) dM_degree_2 ⟨Nat.le_of_ble_eq_true rfl, Nat.le_of_ble_eq_true rfl⟩) (fun r112 hw => ?_)
  subst hw
  refine lv_if_ne (tgt := 12) hx hb dM_degree_5 (by decide) (fun c113 => ?_) (fun c113 => ?_)
  · skip
    exact absurd c113 (by decide)
  · skip
    refine lv_iconst (v := 1) hx hb dM_degree_8 (by decide) ?_
    refine lv_goto (tgt := 13) hx hb dM_degree_9 (by decide) ?_
    refine lv_istore_n (lv' := [(3, .int 1), (0, .ref h0), (1, .int p0), (2, .int p1)]) hx hb dM_degree_13 rfl hl (by decide) rfl (fun ls hl => ?_)
    refine lv_aload_n hx hb dM_degree_14 rfl (lv_at hl 1 rfl) ?_
    refine lv_iload_n hx hb dM_degree_15 rfl (lv_at hl 0 rfl) ?_
    refine lv_aload_n hx hb dM_degree_16 rfl (lv_at hl 1 rfl) ?_
    refine lv_iload_n hx hb dM_degree_17 rfl (lv_at hl 3 rfl) ?_
    refine vp_callSi (W.runV (As := [.int p1]) (rest := [.int 1, .ref h0]) ⟨hx, hb, hml, hown, hk⟩ (cM_isLetter l dC dI h0 th le fs p1) (cwV 1 hk (gV k89 k90 k91 k71 k92) rfl rfl rfl (by decide +kernel) ⟨Nat.le_of_ble_eq_true rfl, Nat.le_of_ble_eq_true rfl⟩) ⟨mB, va_recv hK hP (ci := 2) (q0 := 0) rfl rfl, mP hP hK⟩ rfl rfl hl.1 rfl (lv_room (Nat.le_of_ble_eq_true rfl)) dM_degree_18 ⟨Nat.le_of_ble_eq_true rfl, Nat.le_of_ble_eq_true rfl⟩) (fun r114 hw => ?_)
    refine lv_if_ne (tgt := 28) hx hb dM_degree_21 (by decide) (fun c115 => ?_) (fun c115 => ?_)
    · skip
      refine lv_iconst (v := 0) hx hb dM_degree_28 (by decide) ?_
      refine lv_iconst (v := 0) hx hb dM_degree_29 (by decide) ?_
      refine va_calli (va_runV (As := [.int 1, .int 0, .int 0]) (rest := []) ⟨hx, hb, hml, hown, hk⟩ (cM_fails1 l dC dI h0 th le fs 0 0) (cwV 3 hk (gV k77 k78 k79 k71 k80) rfl rfl rfl (by decide +kernel) ⟨Nat.le_of_ble_eq_true rfl, Nat.le_of_ble_eq_true rfl⟩) ⟨mB, va_recv hK hP (ci := 2) (q0 := 0) rfl rfl, mP hP hK⟩ rfl rfl hl.1 rfl (lv_room (Nat.le_of_ble_eq_true rfl)) dM_degree_30 ⟨Nat.le_of_ble_eq_true rfl, Nat.le_of_ble_eq_true rfl⟩) hS (fun q _ h => h) (fun q h => h) (fun r116 _ t H1 locs ht hvm hw hB hz1 hk1 hS => ?_)
      subst hw
      obtain ⟨hP, hK1⟩ := hB
      rw [ht] at hP
      generalize H1 = H at hP hS ⊢
      have hD : va_D (fun q : Nat => q = h0) (mW h0 1 le 0 fs) := mD
      refine lv_if_eq (tgt := 38) hx hb dM_degree_33 (by decide) (fun c117 => ?_) (fun c117 => ?_)
      · skip
        exact absurd c117 (by decide)
      · skip
        refine lv_iconst (v := 0) hx hb dM_degree_36 (by decide) ?_
        exact W.iret (v := 0) hx hb hr (fun t ht hW => ⟨⟨0, (), rfl, rfl, by rw [ht]; exact hP, va_K.moved hW.alike hK⟩, hS.F ht⟩) hS.2.2 dM_degree_37
    · skip
      refine lv_iconst (v := 1) hx hb dM_degree_24 (by decide) ?_
      refine lv_goto (tgt := 29) hx hb dM_degree_25 (by decide) ?_
      refine lv_iconst (v := 0) hx hb dM_degree_29 (by decide) ?_
      refine va_calli (va_runV (As := [.int 1, .int 1, .int 0]) (rest := []) ⟨hx, hb, hml, hown, hk⟩ (cM_fails1 l dC dI h0 th le fs 1 0) (cwV 3 hk (gV k77 k78 k79 k71 k80) rfl rfl rfl (by decide +kernel) ⟨Nat.le_of_ble_eq_true rfl, Nat.le_of_ble_eq_true rfl⟩) ⟨mB, va_recv hK hP (ci := 2) (q0 := 0) rfl rfl, mP hP hK⟩ rfl rfl hl.1 rfl (lv_room (Nat.le_of_ble_eq_true rfl)) dM_degree_30 ⟨Nat.le_of_ble_eq_true rfl, Nat.le_of_ble_eq_true rfl⟩) hS (fun q _ h => h) (fun q h => h) (fun r118 _ t H1 locs ht hvm hw hB hz1 hk1 hS => ?_)
      subst hw
      obtain ⟨hP, hK1⟩ := hB
      rw [ht] at hP
      generalize H1 = H at hP hS ⊢
      have hD : va_D (fun q : Nat => q = h0) (mW h0 1 le 0 fs) := mD
      refine lv_if_eq (tgt := 38) hx hb dM_degree_33 (by decide) (fun c119 => ?_) (fun c119 => ?_)
      · skip
        exact absurd c119 (by decide)
      · skip
        refine lv_iconst (v := 0) hx hb dM_degree_36 (by decide) ?_
        exact W.iret (v := 0) hx hb hr (fun t ht hW => ⟨⟨0, (), rfl, rfl, by rw [ht]; exact hP, va_K.moved hW.alike hK⟩, hS.F ht⟩) hS.2.2 dM_degree_37
