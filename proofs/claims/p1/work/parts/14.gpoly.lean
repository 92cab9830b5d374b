set_option maxHeartbeats 4000000 in
set_option maxRecDepth 100000 in
theorem cG_requireRoom (l : Launch) (dC : Nat → ClassId) (dI : Nat → Nat → Nat) (h0 : Nat) (le : Int32) (qp sz : Nat) : Met l yG_requireRoom wG_requireRoom ({ frames := 0, cells := 0, slots := 0, locals := 0 }) (va_Pc [.ref h0] (nU dC dI [(h0, .inr (0, [.int le, .ref qp, .int 0, .null]))] [] sz)) (va_Sv (fun _ => True)) 0 0 (fun _ => False) := by
  refine Met.ofW (cc := bG_requireRoom) (maxL := 1) (ret := none) (by decide) rfl ?_
  intro p e s m args below meth c s₁ B hml hv
  obtain ⟨rfl, hsz, hP, hK, hD0⟩ := hv
  have hx := B.exec
  have hb := B.bytes
  have hr := B.returns
  have hts := atoms_spec (ws := wG_requireRoom) B.pre
  have hk : ∀ w ∈ W0, w.before _ s = true := fun w h => hts w (List.mem_cons_of_mem _ h)
  have hown : s.vm.findClass "ImageGcds" = some m.cls := findClass_of_methodNamed B.named
  have hlocks := B.notSynchronized
  have hl := lv_entry ([.ref h0]) (n := 1) (Nat.le_of_ble_eq_true rfl)
  rw [lg_entry_eq]
  generalize (lg_sl ([.ref h0]) ++ List.replicate (1 - (lg_sl ([.ref h0])).length) Slot.unset).toArray = ls at hl ⊢
  have hl : lv_has ls 1 [(0, .ref h0)] := hl
  refine lv_aload_n hx hb dG_requireRoom_0 rfl (lv_at hl 0 rfl) ?_
  refine va_get (D := (dC, dI)) (ci := 0) (v := .int 0) (C := "ImageGcds") (T := TG) (N := 4) hx hb hk uG hown hK hP 0 rfl rfl 2 (by decide) (hk _ k2) (fun _ h9 => h9) rfl dG_requireRoom_1 ?_
  refine lv_bipush (v := 60) hx hb dG_requireRoom_4 (by decide) ?_
  refine lv_icmp_lt (tgt := 19) hx hb dG_requireRoom_6 (by decide) (fun c173 => ?_) (fun c173 => ?_)
  · skip
    exact W.vret hx hb hr (fun t ht hW => ⟨rfl, trivial, ht⟩) (fun q h => nomatch h) dG_requireRoom_19
  · skip
    exact absurd c173 (by decide)
set_option maxHeartbeats 4000000 in
set_option maxRecDepth 100000 in
theorem cG_keep (l : Launch) (dC : Nat → ClassId) (dI : Nat → Nat → Nat) (h0 : Nat) (le : Int32) (qp : Nat) (cA : ClassId) (pa : Nat) (fs : List Value) (sz : Nat) : Met l yG_keep wG_keep ({ frames := 0, cells := 0, slots := 0, locals := 0 }) (va_Pc [.ref h0, .ref pa] (nU dC dI [(h0, .inr (0, [.int le, .ref qp, .int 0, .null])), (qp, .inl (cA, 60, .inr (.inr (.inr (.inr (fun _ => none)))))), (pa, .inr (1, fs))] [(cA, .object "ImageGcds$Poly")] sz)) (va_Qi (fun (r : Int32) (_ : Unit) => r = 0) (fun _ _ => True) (va_A [(h0, .inr (0, [.int le, .ref qp, .int 0, .null])), (qp, .inl (cA, 60, .inr (.inr (.inr (.inr (fun _ => none)))))), (pa, .inr (1, fs))] sz)) 0 0 (va_A [(h0, .inr (0, [.int le, .ref qp, .int 0, .null])), (qp, .inl (cA, 60, .inr (.inr (.inr (.inr (fun _ => none)))))), (pa, .inr (1, fs))] sz) := by
  refine Met.ofW (cc := bG_keep) (maxL := 2) (ret := (some .int)) (by decide) rfl ?_
  intro p e s m args below meth c s₁ B hml hv
  obtain ⟨rfl, hsz, hP, hK, hD0⟩ := hv
  have hx := B.exec
  have hb := B.bytes
  have hr := B.returns
  have hts := atoms_spec (ws := wG_keep) B.pre
  have hk : ∀ w ∈ W0, w.before _ s = true := fun w h => hts w (List.mem_cons_of_mem _ h)
  have hown : s.vm.findClass "ImageGcds" = some m.cls := findClass_of_methodNamed B.named
  have hlocks := B.notSynchronized
  subst hsz
  have hD := hD0.self (sz := s.heap.size)
  generalize hAe : va_A [(h0, .inr (0, [.int le, .ref qp, .int 0, .null])), (qp, .inl (cA, 60, .inr (.inr (.inr (.inr (fun _ => none)))))), (pa, .inr (1, fs))] s.heap.size = A at hD ⊢
  have hA : ∀ q : Nat, s.heap.size ≤ q → A q := fun q h => by rw [← hAe]; exact Or.inr h
  have hS : va_S A s.heap s.heap [] := va_S.rf
  have hl := lv_entry ([.ref h0, .ref pa]) (n := 2) (Nat.le_of_ble_eq_true rfl)
  rw [lg_entry_eq]
  generalize (lg_sl ([.ref h0, .ref pa]) ++ List.replicate (2 - (lg_sl ([.ref h0, .ref pa])).length) Slot.unset).toArray = ls at hl ⊢
  have hl : lv_has ls 2 [(0, .ref h0), (1, .ref pa)] := hl
  refine lv_aload_n hx hb dG_keep_0 rfl (lv_at hl 0 rfl) ?_
  refine va_get (D := (dC, dI)) (ci := 0) (v := .int 0) (C := "ImageGcds") (T := TG) (N := 4) hx hb hk uG hown hK hP 0 rfl rfl 2 (by decide) (hk _ k2) (fun _ h9 => h9) rfl dG_keep_1 ?_
  refine lv_aload_n hx hb dG_keep_4 rfl (lv_at hl 0 rfl) ?_
  refine va_get (D := (dC, dI)) (ci := 0) (v := .ref qp) (C := "ImageGcds") (T := TG) (N := 4) hx hb hk uG hown hK hP 0 rfl rfl 1 (by decide) (hk _ k98) (fun _ h9 => h9) rfl dG_keep_5 ?_
  refine va_alen (v := 60) hx hb hK hP 1 0 rfl rfl rfl dG_keep_8 ?_
  refine lv_icmp_ge (tgt := 32) hx hb dG_keep_9 (by decide) (fun c174 => ?_) (fun c174 => ?_)
  · skip
    exact absurd c174 (by decide)
  · skip
    refine lv_aload_n hx hb dG_keep_12 rfl (lv_at hl 0 rfl) ?_
    refine va_get (D := (dC, dI)) (ci := 0) (v := .ref qp) (C := "ImageGcds") (T := TG) (N := 4) hx hb hk uG hown hK hP 0 rfl rfl 1 (by decide) (hk _ k98) (fun _ h9 => h9) rfl dG_keep_13 ?_
    refine lv_aload_n hx hb dG_keep_16 rfl (lv_at hl 0 rfl) ?_
    refine va_get (D := (dC, dI)) (ci := 0) (v := .int 0) (C := "ImageGcds") (T := TG) (N := 4) hx hb hk uG hown hK hP 0 rfl rfl 2 (by decide) (hk _ k2) (fun _ h9 => h9) rfl dG_keep_17 ?_
    refine lv_aload_n hx hb dG_keep_20 rfl (lv_at hl 1 rfl) ?_
    have hin : vp_in 0 60 := by rw [← nI_0]; exact vp_in_nI (by decide) (by decide)
    refine va_astq hx hb hK hP hD hS 1 0 2 1 rfl rfl rfl rfl hin dG_keep_21 (fun H locs hP hD hS => ?_)
    have hP : va_P (dC, dI) cls9 [(h0, .inr (0, [.int le, .ref qp, .int 0, .null])), (qp, .inl (cA, 60, .inr (.inr (.inr (.inr (va_up (fun _ => none) (0 : Int32).toNatClampNeg (some pa))))))), (pa, .inr (1, fs))] H := hP
    have hD : va_D A [(h0, .inr (0, [.int le, .ref qp, .int 0, .null])), (qp, .inl (cA, 60, .inr (.inr (.inr (.inr (va_up (fun _ => none) (0 : Int32).toNatClampNeg (some pa))))))), (pa, .inr (1, fs))] := hD
    refine lv_aload_n hx hb dG_keep_22 rfl (lv_at hl 0 rfl) ?_
    refine lv_dup hx hb dG_keep_23 rfl ?_
    refine va_get (D := (dC, dI)) (ci := 0) (v := .int 0) (C := "ImageGcds") (T := TG) (N := 4) hx hb hk uG hown hK hP 0 rfl rfl 2 (by decide) (hk _ k2) (fun _ h9 => h9) rfl dG_keep_24 ?_
    refine lv_iconst (v := 1) hx hb dG_keep_27 (by decide) ?_
    refine lv_iadd hx hb dG_keep_28 ?_
    refine lv_topi (fun v175 ev175 => ?_)
    refine va_put (D := (dC, dI)) (ci := 0) (v := .int v175) (ty := .int) (C := "ImageGcds") (T := TG) (N := 4) hx hb hk uG tG tG_ok nG hown hK hP hD hS 0 rfl rfl 2 (by decide) (hk _ k2) (fun _ h9 => h9) rfl (by decide +kernel) rfl rfl (Nat.le_of_ble_eq_true rfl) dG_keep_29 (fun H locs hP hD hS => ?_)
    have hP : va_P (dC, dI) cls9 [(h0, .inr (0, [.int le, .ref qp, .int v175, .null])), (qp, .inl (cA, 60, .inr (.inr (.inr (.inr (va_up (fun _ => none) (0 : Int32).toNatClampNeg (some pa))))))), (pa, .inr (1, fs))] H := hP
    have hD : va_D A [(h0, .inr (0, [.int le, .ref qp, .int v175, .null])), (qp, .inl (cA, 60, .inr (.inr (.inr (.inr (va_up (fun _ => none) (0 : Int32).toNatClampNeg (some pa))))))), (pa, .inr (1, fs))] := hD
    refine lv_aload_n hx hb dG_keep_32 rfl (lv_at hl 0 rfl) ?_
    refine va_get (D := (dC, dI)) (ci := 0) (v := .int v175) (C := "ImageGcds") (T := TG) (N := 4) hx hb hk uG hown hK hP 0 rfl rfl 2 (by decide) (hk _ k2) (fun _ h9 => h9) rfl dG_keep_33 ?_
    refine lv_iconst (v := 1) hx hb dG_keep_36 (by decide) ?_
    refine lv_isub hx hb dG_keep_37 ?_
    refine lv_topi (fun v176 ev176 => ?_)
    have hz : v176 = 0 := by rw [ev176, ev175]; decide
    exact W.iret (v := v176) hx hb hr (fun t ht hW => ⟨⟨_, (), rfl, hz, trivial⟩, hS.F ht⟩) hS.2.2 dG_keep_38
set_option maxHeartbeats 4000000 in
set_option maxRecDepth 100000 in
theorem cG_poly (l : Launch) (dC : Nat → ClassId) (dI : Nat → Nat → Nat) (h0 : Nat) (le : Int32) (qp : Nat) (cA : ClassId) (sz : Nat) : Met l yG_poly wG_poly ({ frames := 2, cells := 3, slots := 3, locals := 60 }) (va_Pc [.ref h0] (nU dC dI [(h0, .inr (0, [.int le, .ref qp, .int 0, .null])), (qp, .inl (cA, 60, .inr (.inr (.inr (.inr (fun _ => none))))))] [(cA, .object "ImageGcds$Poly")] sz)) (va_Qi (fun (r : Int32) (_ : Unit) => r = 0) (fun _ _ => True) (va_A [(h0, .inr (0, [.int le, .ref qp, .int 0, .null])), (qp, .inl (cA, 60, .inr (.inr (.inr (.inr (fun _ => none))))))] sz)) 3 3 (va_A [(h0, .inr (0, [.int le, .ref qp, .int 0, .null])), (qp, .inl (cA, 60, .inr (.inr (.inr (.inr (fun _ => none))))))] sz) := by
  refine Met.ofW (cc := bG_poly) (maxL := 1) (ret := (some .int)) (by decide) rfl ?_
  intro p e s m args below meth c s₁ B hml hv
  obtain ⟨rfl, hsz, hP, hK, hD0⟩ := hv
  have hx := B.exec
  have hb := B.bytes
  have hr := B.returns
  have hts := atoms_spec (ws := wG_poly) B.pre
  have hk : ∀ w ∈ W0, w.before _ s = true := fun w h => hts w (List.mem_cons_of_mem _ h)
  have hown : s.vm.findClass "ImageGcds" = some m.cls := findClass_of_methodNamed B.named
  have hlocks := B.notSynchronized
  subst hsz
  have hD := hD0.self (sz := s.heap.size)
  generalize hAe : va_A [(h0, .inr (0, [.int le, .ref qp, .int 0, .null])), (qp, .inl (cA, 60, .inr (.inr (.inr (.inr (fun _ => none))))))] s.heap.size = A at hD ⊢
  have hA : ∀ q : Nat, s.heap.size ≤ q → A q := fun q h => by rw [← hAe]; exact Or.inr h
  have hS : va_S A s.heap s.heap [] := va_S.rf
  have hl := lv_entry ([.ref h0]) (n := 1) (Nat.le_of_ble_eq_true rfl)
  rw [lg_entry_eq]
  generalize (lg_sl ([.ref h0]) ++ List.replicate (1 - (lg_sl ([.ref h0])).length) Slot.unset).toArray = ls at hl ⊢
  have hl : lv_has ls 1 [(0, .ref h0)] := hl
  refine lv_aload_n hx hb dG_poly_0 rfl (lv_at hl 0 rfl) ?_
  have hP0 := hP.sub (ws' := [(h0, .inr (0, [.int le, .ref qp, .int 0, .null]))]) [0] rfl
  have hD0 := hD.sub (ws' := [(h0, .inr (0, [.int le, .ref qp, .int 0, .null]))]) [0] (by decide) rfl
  have hK0 := hK.sub (tys' := []) [] rfl
  refine va_csv (W.runV (As := []) (rest := []) ⟨hx, hb, hml, hown, hk⟩ (cG_requireRoom l dC dI h0 le qp _) (cwV 0 hk (gV k136 k137 k138 k6 k139) rfl rfl rfl (by decide +kernel) ⟨Nat.le_of_ble_eq_true rfl, Nat.le_of_ble_eq_true rfl⟩) ⟨nBl, va_recv hK0 hP0 (ci := 0) (q0 := 0) rfl rfl, nPr hP0 hK0 hD0⟩ rfl rfl hl.1 rfl (lv_room (Nat.le_of_ble_eq_true rfl)) dG_poly_1 ⟨Nat.le_of_ble_eq_true rfl, Nat.le_of_ble_eq_true rfl⟩) (fun _ => ?_)
  refine lv_aload_n hx hb dG_poly_4 rfl (lv_at hl 0 rfl) ?_
  refine va_new (ci := 1) (fs := [.int 0, .null, .null]) (C := "ImageGcds$Poly") (T := TP) (N := 3) hx hb hk uP tP tP_ok hown (hk _ k97) (hk _ k140) (hk _ k141) hK hP hD hS hA rfl (fun j hj => by rcases (show j = 0 ∨ j = 1 ∨ j = 2 by omega) with rfl | rfl | rfl <;> rfl) (Nat.le_of_ble_eq_true rfl) (Nat.le_of_ble_eq_true rfl) dG_poly_5 (fun q5 H hP hD hS => ?_)
  have hP : va_P (dC, dI) cls9 [(h0, .inr (0, [.int le, .ref qp, .int 0, .null])), (qp, .inl (cA, 60, .inr (.inr (.inr (.inr (fun _ => none)))))), (q5, .inr (1, [.int 0, .null, .null]))] H := hP
  have hD : va_D A [(h0, .inr (0, [.int le, .ref qp, .int 0, .null])), (qp, .inl (cA, 60, .inr (.inr (.inr (.inr (fun _ => none)))))), (q5, .inr (1, [.int 0, .null, .null]))] := hD
  refine lv_dup hx hb dG_poly_8 rfl ?_
  refine lv_iconst (v := 0) hx hb dG_poly_9 (by decide) ?_
  have hPc := hP.sub (ws' := [(q5, .inr (1, [.int 0, .null, .null]))]) [2] rfl
  have hFc := va_free (wc := [(q5, .inr (1, [.int 0, .null, .null]))]) hD hS hA [2] rfl
  refine va_callv (va_runI (As := [.int 0]) (rest := [.ref q5, .ref h0]) ⟨hx, hb, hml, hown, hk⟩ (cP_init l dC dI q5 _) (cwI 1 hk (gI k142) rfl rfl rfl (hk _ k141) (hk _ k143) (hk _ k144) rfl (by decide +kernel) ⟨Nat.le_of_ble_eq_true rfl, Nat.le_of_ble_eq_true rfl⟩) ⟨fun a U g mk q => ⟨q.1, q.2.1, q.2.2.1, va_K.moved (u := U) (U := U.calling g mk a) (Vm.Alike.refl U.vm) q.2.2.2⟩, fun U hU hW => ⟨rfl, by rw [hU], by rw [hU]; exact hPc, va_K.moved hW.alike hK0⟩⟩ rfl rfl hl.1 rfl (lv_room (Nat.le_of_ble_eq_true rfl)) dG_poly_10 ⟨Nat.le_of_ble_eq_true rfl, Nat.le_of_ble_eq_true rfl⟩) hS (fun q _ h => hFc q h) hFc (fun u t H1 locs ht hvm hw hB hz1 hk1 hS => ?_)
  obtain ⟨q1, q2, hP1, hK1, hD1⟩ := hB
  rw [ht] at hP1
  obtain ⟨hP, hD⟩ := va_join (wr := [(h0, .inr (0, [.int le, .ref qp, .int 0, .null])), (qp, .inl (cA, 60, .inr (.inr (.inr (.inr (fun _ => none))))))]) (w1 := [(q5, .inr (1, [.int 0, .ref q1, .ref q2]))]) hP hD [2] [0, 1] rfl rfl (by decide) (by decide) hk1 hFc hP1 hD1
  generalize H1 = H at hP hS ⊢
  have hP : va_P (dC, dI) cls9 [(h0, .inr (0, [.int le, .ref qp, .int 0, .null])), (qp, .inl (cA, 60, .inr (.inr (.inr (.inr (fun _ => none)))))), (q5, .inr (1, [.int 0, .ref q1, .ref q2]))] H := hP
  have hD : va_D A [(h0, .inr (0, [.int le, .ref qp, .int 0, .null])), (qp, .inl (cA, 60, .inr (.inr (.inr (.inr (fun _ => none)))))), (q5, .inr (1, [.int 0, .ref q1, .ref q2]))] := hD
  have hFc := va_free (wc := [(h0, .inr (0, [.int le, .ref qp, .int 0, .null])), (qp, .inl (cA, 60, .inr (.inr (.inr (.inr (fun _ => none)))))), (q5, .inr (1, [.int 0, .ref q1, .ref q2]))]) hD hS hA [0, 1, 2] rfl
  refine va_calli (va_runV (As := [.ref q5]) (rest := []) ⟨hx, hb, hml, hown, hk⟩ (cG_keep l dC dI h0 le qp cA q5 [.int 0, .ref q1, .ref q2] _) (cwV 1 hk (gV k145 k146 k147 k6 k148) rfl rfl rfl (by decide +kernel) ⟨Nat.le_of_ble_eq_true rfl, Nat.le_of_ble_eq_true rfl⟩) ⟨nBl, va_recv hK hP (ci := 0) (q0 := 0) rfl rfl, nPr hP hK hD⟩ rfl rfl hl.1 rfl (lv_room (Nat.le_of_ble_eq_true rfl)) dG_poly_13 ⟨Nat.le_of_ble_eq_true rfl, Nat.le_of_ble_eq_true rfl⟩) hS (fun q _ h => hFc q h) hFc (fun r3 u t H1 locs ht hvm hw hB hz1 hk1 hS => ?_)
  subst hw
  refine W.widen (k := 3) (n := 3) (Nat.le_of_ble_eq_true rfl) (Nat.le_of_ble_eq_true rfl) ?_
  exact W.iret (v := 0) hx hb hr (fun t ht hW => ⟨⟨0, (), rfl, rfl, trivial⟩, hS.F ht⟩) hS.2.2 dG_poly_16
set_option maxHeartbeats 4000000 in
set_option maxRecDepth 100000 in
theorem cL_poly (l : Launch) (dC : Nat → ClassId) (dI : Nat → Nat → Nat) (h0 : Nat) (le : Int32) (qp : Nat) (cA : ClassId) (po : Nat) (cL : ClassId) (fo : Nat → Int64) (sz : Nat) : Met l yL_poly wL_poly ({ frames := 3, cells := 3, slots := 3, locals := 90 }) (va_Pc [.ref h0, .ref po] (nU dC dI [(h0, .inr (0, [.int le, .ref qp, .int 0, .null])), (qp, .inl (cA, 60, .inr (.inr (.inr (.inr (fun _ => none)))))), (po, .inl (cL, 1, .inr (.inl fo)))] [(cA, .object "ImageGcds$Poly"), (cL, .long)] sz)) (va_Qi (fun (r : Int32) (_ : Unit) => r = 0) (fun _ t => ∃ g : Nat → Int64, g 0 = 0 ∧ va_P (dC, dI) cls9 [(po, .inl (cL, 1, .inr (.inl g)))] t.heap ∧ va_D (va_A [(h0, .inr (0, [.int le, .ref qp, .int 0, .null])), (qp, .inl (cA, 60, .inr (.inr (.inr (.inr (fun _ => none)))))), (po, .inl (cL, 1, .inr (.inl fo)))] sz) [(po, .inl (cL, 1, .inr (.inl g)))]) (va_A [(h0, .inr (0, [.int le, .ref qp, .int 0, .null])), (qp, .inl (cA, 60, .inr (.inr (.inr (.inr (fun _ => none)))))), (po, .inl (cL, 1, .inr (.inl fo)))] sz)) 3 3 (va_A [(h0, .inr (0, [.int le, .ref qp, .int 0, .null])), (qp, .inl (cA, 60, .inr (.inr (.inr (.inr (fun _ => none)))))), (po, .inl (cL, 1, .inr (.inl fo)))] sz) := by
  refine va_MetW (cc := bL_poly) (maxL := 3) (ret := (some .int)) (by decide) rfl ?_
  intro p e s m args below meth c s₁ B hml hv
  obtain ⟨rfl, hsz, hP, hK, hD0⟩ := hv
  have hx := B.exec
  have hb := B.bytes
  have hr := B.returns
  have hts := atoms_spec (ws := wL_poly) B.pre
  have hk : ∀ w ∈ W0, w.before _ s = true := fun w h => hts w (List.mem_cons_of_mem _ h)
  have hown : s.vm.findClass "ImageGcdsLaw" = some m.cls := findClass_of_methodNamed B.named
  have hlocks := B.notSynchronized
  subst hsz
  have hD := hD0.self (sz := s.heap.size)
  generalize hAe : va_A [(h0, .inr (0, [.int le, .ref qp, .int 0, .null])), (qp, .inl (cA, 60, .inr (.inr (.inr (.inr (fun _ => none)))))), (po, .inl (cL, 1, .inr (.inl fo)))] s.heap.size = A at hD ⊢
  have hA : ∀ q : Nat, s.heap.size ≤ q → A q := fun q h => by rw [← hAe]; exact Or.inr h
  have hS : va_S A s.heap s.heap [] := va_S.rf
  have hl := lv_entry ([.ref h0, .ref po]) (n := 3) (Nat.le_of_ble_eq_true rfl)
  rw [lg_entry_eq]
  generalize (lg_sl ([.ref h0, .ref po]) ++ List.replicate (3 - (lg_sl ([.ref h0, .ref po])).length) Slot.unset).toArray = ls at hl ⊢
  have hl : lv_has ls 3 [(0, .ref h0), (1, .ref po)] := hl
  refine lv_aload_n hx hb dL_poly_0 rfl (lv_at hl 1 rfl) ?_
  refine lv_iconst (v := 0) hx hb dL_poly_1 (by decide) ?_
  refine lv_aload_n hx hb dL_poly_2 rfl (lv_at hl 0 rfl) ?_
  have hP0 := hP.sub (ws' := [(h0, .inr (0, [.int le, .ref qp, .int 0, .null])), (qp, .inl (cA, 60, .inr (.inr (.inr (.inr (fun _ => none))))))]) [0, 1] rfl
  have hD0 := hD.sub (ws' := [(h0, .inr (0, [.int le, .ref qp, .int 0, .null])), (qp, .inl (cA, 60, .inr (.inr (.inr (.inr (fun _ => none))))))]) [0, 1] (by decide) rfl
  have hK0 := hK.sub (tys' := [(cA, .object "ImageGcds$Poly")]) [0] rfl
  have hFc := va_free (wc := [(h0, .inr (0, [.int le, .ref qp, .int 0, .null])), (qp, .inl (cA, 60, .inr (.inr (.inr (.inr (fun _ => none))))))]) hD hS hA [0, 1] rfl
  refine va_calli (va_runV (As := []) (rest := [.int 0, .ref po]) ⟨hx, hb, hml, hown, hk⟩ (cG_poly l dC dI h0 le qp cA _) (cwV 0 hk (gV k149 k150 k151 k6 k152) rfl rfl rfl (by decide +kernel) ⟨Nat.le_of_ble_eq_true rfl, Nat.le_of_ble_eq_true rfl⟩) ⟨nBl, va_recv hK0 hP0 (ci := 0) (q0 := 0) rfl rfl, nPr hP0 hK0 hD0⟩ rfl rfl hl.1 rfl (lv_room (Nat.le_of_ble_eq_true rfl)) dL_poly_3 ⟨Nat.le_of_ble_eq_true rfl, Nat.le_of_ble_eq_true rfl⟩) hS (fun q _ h => hFc q h) hFc (fun r3 u t H1 locs ht hvm hw hB hz1 hk1 hS => ?_)
  subst hw
  obtain ⟨hP, hD⟩ := va_join (wr := [(po, .inl (cL, 1, .inr (.inl fo)))]) (w1 := []) hP hD [0, 1] [2] rfl rfl (by decide) (by decide) hk1 hFc (fun j x hx => by simp at hx) ⟨fun i j x y hx => by simp at hx, fun j x hx => by simp at hx⟩
  generalize H1 = H at hP hS ⊢
  have hP : va_P (dC, dI) cls9 [(po, .inl (cL, 1, .inr (.inl fo)))] H := hP
  have hD : va_D A [(po, .inl (cL, 1, .inr (.inl fo)))] := hD
  refine lv_i2l (v := 0) hx hb dL_poly_6 (by decide) ?_
  have hin : vp_in 0 1 := by rw [← nI_0]; exact vp_in_nI (by decide) (by decide)
  refine va_last hx hb hK hP hD hS 0 1 rfl rfl hin dL_poly_7 (fun H locs hP hD hS => ?_)
  refine lv_goto (tgt := 14) hx hb dL_poly_8 (by decide) ?_
  refine lv_iconst (v := 0) hx hb dL_poly_14 (by decide) ?_
  refine W.widen (k := 3) (n := 3) (Nat.le_of_ble_eq_true rfl) (Nat.le_of_ble_eq_true rfl) ?_
  exact W.iret (v := 0) hx hb hr (fun t ht hW => ⟨⟨0, (), rfl, rfl, _, rfl, by rw [ht]; exact hP, hD⟩, hS.F ht⟩) hS.2.2 dL_poly_15
