def gI9 (A : Nat → Prop) (dC : Nat → ClassId) (dI : Nat → Nat → Nat) (h0 : Nat) (t : State) : Prop := ∃ (le : Int32) (qp : Nat) (cA : ClassId), va_P (dC, dI) cls9 [(h0, .inr (0, [.int le, .ref qp, .int 0, .null])), (qp, .inl (cA, 60, .inr (.inr (.inr (.inr (fun _ => none))))))] t.heap ∧ va_K (dC, dI) cls9 [(cA, .object "ImageGcds$Poly")] t ∧ va_D A [(h0, .inr (0, [.int le, .ref qp, .int 0, .null])), (qp, .inl (cA, 60, .inr (.inr (.inr (.inr (fun _ => none))))))]
def mI9 (A : Nat → Prop) (dC : Nat → ClassId) (dI : Nat → Nat → Nat) (h0 : Nat) (t : State) : Prop := ∃ (le : Int32) (qn : Nat) (cA : ClassId) (f : Nat → Int32) (fs : List Value), va_P (dC, dI) cls9 [(h0, .inr (2, .int 0 :: .int le :: .int 0 :: .ref qn :: fs)), (qn, .inl (cA, 290816, .inl f))] t.heap ∧ va_K (dC, dI) cls9 [(cA, .int)] t ∧ va_D A [(h0, .inr (2, .int 0 :: .int le :: .int 0 :: .ref qn :: fs)), (qn, .inl (cA, 290816, .inl f))]
def pI9 (A : Nat → Prop) (dC : Nat → ClassId) (dI : Nat → Nat → Nat) (h0 : Nat) (t : State) : Prop := ∃ (q1 q2 : Nat), va_P (dC, dI) cls9 [(h0, .inr (1, [.int 0, .ref q1, .ref q2]))] t.heap ∧ va_K (dC, dI) cls9 [] t ∧ va_D A [(h0, .inr (1, [.int 0, .ref q1, .ref q2]))]
set_option maxHeartbeats 4000000 in
set_option maxRecDepth 100000 in
theorem cG_init (l : Launch) (dC : Nat → ClassId) (dI : Nat → Nat → Nat) (h0 : Nat) (sz : Nat) (p0 : Int32) : Met l yG_init wG_init ({ frames := 1, cells := 1, slots := 60, locals := 20 }) (va_Pc [.ref h0, .int p0] (fun U => U.heap.size = sz ∧ va_P (dC, dI) cls9 [(h0, .inr (0, [.int 0, .null, .int 0, .null]))] U.heap ∧ va_K (dC, dI) cls9 [] U ∧ va_AO "ImageGcds$Poly" U)) (va_Qv (fun _ : Unit => True) (fun _ t => gI9 (va_A [(h0, .inr (0, [.int 0, .null, .int 0, .null]))] sz) dC dI h0 t) (va_A [(h0, .inr (0, [.int 0, .null, .int 0, .null]))] sz)) 1 60 (va_A [(h0, .inr (0, [.int 0, .null, .int 0, .null]))] sz) := by
  refine Met.ofW (cc := bG_init) (maxL := 2) (ret := none) (by decide) rfl ?_
  intro p e s m args below meth c s₁ B hml hv
  obtain ⟨rfl, hsz, hP, hK, hAO⟩ := hv
  have hx := B.exec
  have hb := B.bytes
  have hr := B.returns
  have hts := atoms_spec (ws := wG_init) B.pre
  have hk : ∀ w ∈ W0, w.before _ s = true := fun w h => hts w (List.mem_cons_of_mem _ h)
  have hown : s.vm.findClass "ImageGcds" = some m.cls := findClass_of_methodNamed B.named
  have hlocks := B.notSynchronized
  have hin : meth.name = "<init>" := (name_of_methodNamed B.named B.method).1
  subst hsz
  have hD : va_D (va_A [(h0, .inr (0, [.int 0, .null, .int 0, .null]))] s.heap.size) [(h0, .inr (0, [.int 0, .null, .int 0, .null]))] := mD.self
  generalize hAe : va_A [(h0, .inr (0, [.int 0, .null, .int 0, .null]))] s.heap.size = A at hD ⊢
  have hA : ∀ q : Nat, s.heap.size ≤ q → A q := fun q h => by rw [← hAe]; exact Or.inr h
  have hS : va_S A s.heap s.heap [] := va_S.rf
  have hP : va_P (dC, dI) cls9 [(h0, .inr (0, [.int 0, .null, .int 0, .null]))] s.heap := hP
  have hl := lv_entry ([.ref h0, .int p0]) (n := 2) (Nat.le_of_ble_eq_true rfl)
  rw [lg_entry_eq]
  generalize (lg_sl ([.ref h0, .int p0]) ++ List.replicate (2 - (lg_sl ([.ref h0, .int p0])).length) Slot.unset).toArray = ls at hl ⊢
  have hl : lv_has ls 2 [(0, .ref h0), (1, .int p0)] := hl
  refine lv_aload_n hx hb dG_init_0 rfl (lv_at hl 0 rfl) ?_
  refine W.objInit hx hb hown (hk _ k93) (hk _ k94) (hk _ k95) rfl (by rw [hml]; exact hl.1) rfl dG_init_1 (Nat.le_of_ble_eq_true rfl) (Nat.le_of_ble_eq_true rfl) ?_
  refine W.eq (g2 := F0 m 4 ls []) rfl ?_
  refine lv_aload_n hx hb dG_init_4 rfl (lv_at hl 0 rfl) ?_
  refine lv_iload_n hx hb dG_init_5 rfl (lv_at hl 1 rfl) ?_
  refine lv_iconst (v := 1) hx hb dG_init_6 (by decide) ?_
  refine lv_icmp_ge (tgt := 14) hx hb dG_init_7 (by decide) (fun c120 => ?_) (fun c120 => ?_)
  · skip
    refine lv_iload_n hx hb dG_init_14 rfl (lv_at hl 1 rfl) ?_
    refine lv_iconst (v := 3) hx hb dG_init_15 (by decide) ?_
    refine lv_icmp_le (tgt := 23) hx hb dG_init_16 (by decide) (fun c121 => ?_) (fun c121 => ?_)
    · skip
      refine lv_iload_n hx hb dG_init_23 rfl (lv_at hl 1 rfl) ?_
      refine va_putF (D := (dC, dI)) (ci := 0) (v := .int p0) (ty := .int) (C := "ImageGcds") (T := TG) (N := 4) hx hb hk uG tG tG_ok nG hown hK hP hD hS 0 rfl rfl 0 (by decide) (hk _ k96) (fun _ h9 => h9) rfl hin rfl (by decide +kernel) rfl rfl (Nat.le_of_ble_eq_true rfl) dG_init_24 (fun H locs hP hD hS => ?_)
      have hP : va_P (dC, dI) cls9 [(h0, .inr (0, [.int p0, .null, .int 0, .null]))] H := hP
      have hD : va_D A [(h0, .inr (0, [.int p0, .null, .int 0, .null]))] := hD
      refine lv_aload_n hx hb dG_init_27 rfl (lv_at hl 0 rfl) ?_
      refine lv_bipush (v := 60) hx hb dG_init_28 (by decide) ?_
      refine va_newq (N' := 60) (C := "ImageGcds$Poly") hx hb hown (hk _ k97) hAO hK hP hD hS hA (by decide) (by decide) (by decide) (Nat.le_of_ble_eq_true rfl) (Nat.le_of_ble_eq_true rfl) dG_init_30 (fun q122 cA123 H hK hP hD hS => ?_)
      have hP : va_P (dC, dI) cls9 [(h0, .inr (0, [.int p0, .null, .int 0, .null])), (q122, .inl (cA123, 60, .inr (.inr (.inr (.inr (fun _ => none))))))] H := hP
      have hD : va_D A [(h0, .inr (0, [.int p0, .null, .int 0, .null])), (q122, .inl (cA123, 60, .inr (.inr (.inr (.inr (fun _ => none))))))] := hD
      have hK : va_K (dC, dI) cls9 [(cA123, .object "ImageGcds$Poly")] s := hK
      refine va_putF (D := (dC, dI)) (ci := 0) (v := .ref q122) (ty := .array (.object "ImageGcds$Poly")) (C := "ImageGcds") (T := TG) (N := 4) hx hb hk uG tG tG_ok nG hown hK hP hD hS 0 rfl rfl 1 (by decide) (hk _ k98) (fun _ h9 => h9) rfl hin rfl (by decide +kernel) rfl rfl (Nat.le_of_ble_eq_true rfl) dG_init_33 (fun H locs hP hD hS => ?_)
      have hP : va_P (dC, dI) cls9 [(h0, .inr (0, [.int p0, .ref q122, .int 0, .null])), (q122, .inl (cA123, 60, .inr (.inr (.inr (.inr (fun _ => none))))))] H := hP
      have hD : va_D A [(h0, .inr (0, [.int p0, .ref q122, .int 0, .null])), (q122, .inl (cA123, 60, .inr (.inr (.inr (.inr (fun _ => none))))))] := hD
      refine lv_aload_n hx hb dG_init_36 rfl (lv_at hl 0 rfl) ?_
      refine lv_iconst (v := 0) hx hb dG_init_37 (by decide) ?_
      refine va_put (D := (dC, dI)) (ci := 0) (v := .int 0) (ty := .int) (C := "ImageGcds") (T := TG) (N := 4) hx hb hk uG tG tG_ok nG hown hK hP hD hS 0 rfl rfl 2 (by decide) (hk _ k2) (fun _ h9 => h9) rfl (by decide +kernel) rfl rfl (Nat.le_of_ble_eq_true rfl) dG_init_38 (fun H locs hP hD hS => ?_)
      have hP : va_P (dC, dI) cls9 [(h0, .inr (0, [.int p0, .ref q122, .int 0, .null])), (q122, .inl (cA123, 60, .inr (.inr (.inr (.inr (fun _ => none))))))] H := hP
      have hD : va_D A [(h0, .inr (0, [.int p0, .ref q122, .int 0, .null])), (q122, .inl (cA123, 60, .inr (.inr (.inr (.inr (fun _ => none))))))] := hD
      have hP9 := hP.sub (ws' := [(h0, .inr (0, [.int p0, .ref q122, .int 0, .null])), (q122, .inl (cA123, 60, .inr (.inr (.inr (.inr (fun _ => none))))))]) [0, 1] rfl
      have hD9 := hD.sub (ws' := [(h0, .inr (0, [.int p0, .ref q122, .int 0, .null])), (q122, .inl (cA123, 60, .inr (.inr (.inr (.inr (fun _ => none))))))]) [0, 1] (by decide) rfl
      have hK9 := hK.sub (tys' := [(cA123, .object "ImageGcds$Poly")]) [0] rfl
      refine W.widen (k := 1) (n := 60) (Nat.le_of_ble_eq_true rfl) (Nat.le_of_ble_eq_true rfl) ?_
      exact W.vret hx hb hr (fun t ht hW => ⟨⟨(), rfl, trivial, _, _, _, by rw [ht]; exact hP9, va_K.moved hW.alike hK9, hD9⟩, hS.F ht⟩) hS.2.2 dG_init_41
    · skip
      refine lv_iconst (v := 3) hx hb dG_init_19 (by decide) ?_
      refine lv_goto (tgt := 24) hx hb dG_init_20 (by decide) ?_
      refine va_putF (D := (dC, dI)) (ci := 0) (v := .int 3) (ty := .int) (C := "ImageGcds") (T := TG) (N := 4) hx hb hk uG tG tG_ok nG hown hK hP hD hS 0 rfl rfl 0 (by decide) (hk _ k96) (fun _ h9 => h9) rfl hin rfl (by decide +kernel) rfl rfl (Nat.le_of_ble_eq_true rfl) dG_init_24 (fun H locs hP hD hS => ?_)
      have hP : va_P (dC, dI) cls9 [(h0, .inr (0, [.int 3, .null, .int 0, .null]))] H := hP
      have hD : va_D A [(h0, .inr (0, [.int 3, .null, .int 0, .null]))] := hD
      refine lv_aload_n hx hb dG_init_27 rfl (lv_at hl 0 rfl) ?_
      refine lv_bipush (v := 60) hx hb dG_init_28 (by decide) ?_
      refine va_newq (N' := 60) (C := "ImageGcds$Poly") hx hb hown (hk _ k97) hAO hK hP hD hS hA (by decide) (by decide) (by decide) (Nat.le_of_ble_eq_true rfl) (Nat.le_of_ble_eq_true rfl) dG_init_30 (fun q124 cA125 H hK hP hD hS => ?_)
      have hP : va_P (dC, dI) cls9 [(h0, .inr (0, [.int 3, .null, .int 0, .null])), (q124, .inl (cA125, 60, .inr (.inr (.inr (.inr (fun _ => none))))))] H := hP
      have hD : va_D A [(h0, .inr (0, [.int 3, .null, .int 0, .null])), (q124, .inl (cA125, 60, .inr (.inr (.inr (.inr (fun _ => none))))))] := hD
      have hK : va_K (dC, dI) cls9 [(cA125, .object "ImageGcds$Poly")] s := hK
      refine va_putF (D := (dC, dI)) (ci := 0) (v := .ref q124) (ty := .array (.object "ImageGcds$Poly")) (C := "ImageGcds") (T := TG) (N := 4) hx hb hk uG tG tG_ok nG hown hK hP hD hS 0 rfl rfl 1 (by decide) (hk _ k98) (fun _ h9 => h9) rfl hin rfl (by decide +kernel) rfl rfl (Nat.le_of_ble_eq_true rfl) dG_init_33 (fun H locs hP hD hS => ?_)
      have hP : va_P (dC, dI) cls9 [(h0, .inr (0, [.int 3, .ref q124, .int 0, .null])), (q124, .inl (cA125, 60, .inr (.inr (.inr (.inr (fun _ => none))))))] H := hP
      have hD : va_D A [(h0, .inr (0, [.int 3, .ref q124, .int 0, .null])), (q124, .inl (cA125, 60, .inr (.inr (.inr (.inr (fun _ => none))))))] := hD
      refine lv_aload_n hx hb dG_init_36 rfl (lv_at hl 0 rfl) ?_
      refine lv_iconst (v := 0) hx hb dG_init_37 (by decide) ?_
      refine va_put (D := (dC, dI)) (ci := 0) (v := .int 0) (ty := .int) (C := "ImageGcds") (T := TG) (N := 4) hx hb hk uG tG tG_ok nG hown hK hP hD hS 0 rfl rfl 2 (by decide) (hk _ k2) (fun _ h9 => h9) rfl (by decide +kernel) rfl rfl (Nat.le_of_ble_eq_true rfl) dG_init_38 (fun H locs hP hD hS => ?_)
      have hP : va_P (dC, dI) cls9 [(h0, .inr (0, [.int 3, .ref q124, .int 0, .null])), (q124, .inl (cA125, 60, .inr (.inr (.inr (.inr (fun _ => none))))))] H := hP
      have hD : va_D A [(h0, .inr (0, [.int 3, .ref q124, .int 0, .null])), (q124, .inl (cA125, 60, .inr (.inr (.inr (.inr (fun _ => none))))))] := hD
      have hP9 := hP.sub (ws' := [(h0, .inr (0, [.int 3, .ref q124, .int 0, .null])), (q124, .inl (cA125, 60, .inr (.inr (.inr (.inr (fun _ => none))))))]) [0, 1] rfl
      have hD9 := hD.sub (ws' := [(h0, .inr (0, [.int 3, .ref q124, .int 0, .null])), (q124, .inl (cA125, 60, .inr (.inr (.inr (.inr (fun _ => none))))))]) [0, 1] (by decide) rfl
      have hK9 := hK.sub (tys' := [(cA125, .object "ImageGcds$Poly")]) [0] rfl
      refine W.widen (k := 1) (n := 60) (Nat.le_of_ble_eq_true rfl) (Nat.le_of_ble_eq_true rfl) ?_
      exact W.vret hx hb hr (fun t ht hW => ⟨⟨(), rfl, trivial, _, _, _, by rw [ht]; exact hP9, va_K.moved hW.alike hK9, hD9⟩, hS.F ht⟩) hS.2.2 dG_init_41
  · skip
    refine lv_iconst (v := 1) hx hb dG_init_10 (by decide) ?_
    refine lv_goto (tgt := 24) hx hb dG_init_11 (by decide) ?_
    refine va_putF (D := (dC, dI)) (ci := 0) (v := .int 1) (ty := .int) (C := "ImageGcds") (T := TG) (N := 4) hx hb hk uG tG tG_ok nG hown hK hP hD hS 0 rfl rfl 0 (by decide) (hk _ k96) (fun _ h9 => h9) rfl hin rfl (by decide +kernel) rfl rfl (Nat.le_of_ble_eq_true rfl) dG_init_24 (fun H locs hP hD hS => ?_)
    have hP : va_P (dC, dI) cls9 [(h0, .inr (0, [.int 1, .null, .int 0, .null]))] H := hP
    have hD : va_D A [(h0, .inr (0, [.int 1, .null, .int 0, .null]))] := hD
    refine lv_aload_n hx hb dG_init_27 rfl (lv_at hl 0 rfl) ?_
    refine lv_bipush (v := 60) hx hb dG_init_28 (by decide) ?_
    refine va_newq (N' := 60) (C := "ImageGcds$Poly") hx hb hown (hk _ k97) hAO hK hP hD hS hA (by decide) (by decide) (by decide) (Nat.le_of_ble_eq_true rfl) (Nat.le_of_ble_eq_true rfl) dG_init_30 (fun q126 cA127 H hK hP hD hS => ?_)
    have hP : va_P (dC, dI) cls9 [(h0, .inr (0, [.int 1, .null, .int 0, .null])), (q126, .inl (cA127, 60, .inr (.inr (.inr (.inr (fun _ => none))))))] H := hP
    have hD : va_D A [(h0, .inr (0, [.int 1, .null, .int 0, .null])), (q126, .inl (cA127, 60, .inr (.inr (.inr (.inr (fun _ => none))))))] := hD
    have hK : va_K (dC, dI) cls9 [(cA127, .object "ImageGcds$Poly")] s := hK
    refine va_putF (D := (dC, dI)) (ci := 0) (v := .ref q126) (ty := .array (.object "ImageGcds$Poly")) (C := "ImageGcds") (T := TG) (N := 4) hx hb hk uG tG tG_ok nG hown hK hP hD hS 0 rfl rfl 1 (by decide) (hk _ k98) (fun _ h9 => h9) rfl hin rfl (by decide +kernel) rfl rfl (Nat.le_of_ble_eq_true rfl) dG_init_33 (fun H locs hP hD hS => ?_)
    have hP : va_P (dC, dI) cls9 [(h0, .inr (0, [.int 1, .ref q126, .int 0, .null])), (q126, .inl (cA127, 60, .inr (.inr (.inr (.inr (fun _ => none))))))] H := hP
    have hD : va_D A [(h0, .inr (0, [.int 1, .ref q126, .int 0, .null])), (q126, .inl (cA127, 60, .inr (.inr (.inr (.inr (fun _ => none))))))] := hD
    refine lv_aload_n hx hb dG_init_36 rfl (lv_at hl 0 rfl) ?_
    refine lv_iconst (v := 0) hx hb dG_init_37 (by decide) ?_
    refine va_put (D := (dC, dI)) (ci := 0) (v := .int 0) (ty := .int) (C := "ImageGcds") (T := TG) (N := 4) hx hb hk uG tG tG_ok nG hown hK hP hD hS 0 rfl rfl 2 (by decide) (hk _ k2) (fun _ h9 => h9) rfl (by decide +kernel) rfl rfl (Nat.le_of_ble_eq_true rfl) dG_init_38 (fun H locs hP hD hS => ?_)
    have hP : va_P (dC, dI) cls9 [(h0, .inr (0, [.int 1, .ref q126, .int 0, .null])), (q126, .inl (cA127, 60, .inr (.inr (.inr (.inr (fun _ => none))))))] H := hP
    have hD : va_D A [(h0, .inr (0, [.int 1, .ref q126, .int 0, .null])), (q126, .inl (cA127, 60, .inr (.inr (.inr (.inr (fun _ => none))))))] := hD
    have hP9 := hP.sub (ws' := [(h0, .inr (0, [.int 1, .ref q126, .int 0, .null])), (q126, .inl (cA127, 60, .inr (.inr (.inr (.inr (fun _ => none))))))]) [0, 1] rfl
    have hD9 := hD.sub (ws' := [(h0, .inr (0, [.int 1, .ref q126, .int 0, .null])), (q126, .inl (cA127, 60, .inr (.inr (.inr (.inr (fun _ => none))))))]) [0, 1] (by decide) rfl
    have hK9 := hK.sub (tys' := [(cA127, .object "ImageGcds$Poly")]) [0] rfl
    refine W.widen (k := 1) (n := 60) (Nat.le_of_ble_eq_true rfl) (Nat.le_of_ble_eq_true rfl) ?_
    exact W.vret hx hb hr (fun t ht hW => ⟨⟨(), rfl, trivial, _, _, _, by rw [ht]; exact hP9, va_K.moved hW.alike hK9, hD9⟩, hS.F ht⟩) hS.2.2 dG_init_41
set_option maxHeartbeats 4000000 in
set_option maxRecDepth 100000 in
theorem cP_init (l : Launch) (dC : Nat → ClassId) (dI : Nat → Nat → Nat) (h0 : Nat) (sz : Nat) : Met l yP_init wP_init ({ frames := 1, cells := 2, slots := 0, locals := 20 }) (va_Pc [.ref h0, .int 0] (fun U => U.heap.size = sz ∧ va_P (dC, dI) cls9 [(h0, .inr (1, [.int 0, .null, .null]))] U.heap ∧ va_K (dC, dI) cls9 [] U)) (va_Qv (fun _ : Unit => True) (fun _ t => pI9 (va_A [(h0, .inr (1, [.int 0, .null, .null]))] sz) dC dI h0 t) (va_A [(h0, .inr (1, [.int 0, .null, .null]))] sz)) 2 0 (va_A [(h0, .inr (1, [.int 0, .null, .null]))] sz) := by
  refine Met.ofW (cc := bP_init) (maxL := 3) (ret := none) (by decide) rfl ?_
  intro p e s m args below meth c s₁ B hml hv
  obtain ⟨rfl, hsz, hP, hK⟩ := hv
  have hx := B.exec
  have hb := B.bytes
  have hr := B.returns
  have hts := atoms_spec (ws := wP_init) B.pre
  have hk : ∀ w ∈ W0, w.before _ s = true := fun w h => hts w (List.mem_cons_of_mem _ h)
  have hown : s.vm.findClass "ImageGcds$Poly" = some m.cls := findClass_of_methodNamed B.named
  have hlocks := B.notSynchronized
  have hin : meth.name = "<init>" := (name_of_methodNamed B.named B.method).1
  subst hsz
  have hD : va_D (va_A [(h0, .inr (1, [.int 0, .null, .null]))] s.heap.size) [(h0, .inr (1, [.int 0, .null, .null]))] := mD.self
  generalize hAe : va_A [(h0, .inr (1, [.int 0, .null, .null]))] s.heap.size = A at hD ⊢
  have hA : ∀ q : Nat, s.heap.size ≤ q → A q := fun q h => by rw [← hAe]; exact Or.inr h
  have hS : va_S A s.heap s.heap [] := va_S.rf
  have hP : va_P (dC, dI) cls9 [(h0, .inr (1, [.int 0, .null, .null]))] s.heap := hP
  have hl := lv_entry ([.ref h0, .int 0]) (n := 3) (Nat.le_of_ble_eq_true rfl)
  rw [lg_entry_eq]
  generalize (lg_sl ([.ref h0, .int 0]) ++ List.replicate (3 - (lg_sl ([.ref h0, .int 0])).length) Slot.unset).toArray = ls at hl ⊢
  have hl : lv_has ls 3 [(0, .ref h0), (1, .int 0)] := hl
  refine lv_aload_n hx hb dP_init_0 rfl (lv_at hl 0 rfl) ?_
  refine W.objInit hx hb hown (hk _ k120) (hk _ k94) (hk _ k95) rfl (by rw [hml]; exact hl.1) rfl dP_init_1 (Nat.le_of_ble_eq_true rfl) (Nat.le_of_ble_eq_true rfl) ?_
  refine W.eq (g2 := F0 m 4 ls []) rfl ?_
  refine lv_iload_n hx hb dP_init_4 rfl (lv_at hl 1 rfl) ?_
  refine lv_if_ge (tgt := 12) hx hb dP_init_5 (by decide) (fun c166 => ?_) (fun c166 => ?_)
  · skip
    refine lv_iload_n hx hb dP_init_12 rfl (lv_at hl 1 rfl) ?_
    refine lv_istore_n (lv' := [(2, .int 0), (0, .ref h0), (1, .int 0)]) hx hb dP_init_13 rfl hl (by decide) rfl (fun ls hl => ?_)
    refine lv_aload_n hx hb dP_init_14 rfl (lv_at hl 1 rfl) ?_
    refine lv_iconst (v := 0) hx hb dP_init_15 (by decide) ?_
    refine va_put (D := (dC, dI)) (ci := 1) (v := .int 0) (ty := .int) (C := "ImageGcds$Poly") (T := TP) (N := 3) hx hb hk uP tP tP_ok nP hown hK hP hD hS 0 rfl rfl 0 (by decide) (hk _ k121) (fun _ h9 => h9) rfl (by decide +kernel) rfl rfl (Nat.le_of_ble_eq_true rfl) dP_init_16 (fun H locs hP hD hS => ?_)
    have hP : va_P (dC, dI) cls9 [(h0, .inr (1, [.int 0, .null, .null]))] H := hP
    have hD : va_D A [(h0, .inr (1, [.int 0, .null, .null]))] := hD
    refine lv_aload_n hx hb dP_init_19 rfl (lv_at hl 1 rfl) ?_
    refine lv_iload_n hx hb dP_init_20 rfl (lv_at hl 0 rfl) ?_
    refine va_newa (ty := .int) (atype := .int) (a0 := (0, .inl (fun _ => 0))) (N' := 0) hx hb (hk _ k101) rfl hK hP hD hS hA (fun cA => vp_cell_i cA _ _) (by decide +kernel) (by decide +kernel) (by decide +kernel) (Nat.le_of_ble_eq_true rfl) (Nat.le_of_ble_eq_true rfl) dP_init_21 (fun q167 cA168 H hK hP hD hS => ?_)
    have hP : va_P (dC, dI) cls9 [(h0, .inr (1, [.int 0, .null, .null])), (q167, .inl (cA168, 0, .inl (fun _ => 0)))] H := hP
    have hD : va_D A [(h0, .inr (1, [.int 0, .null, .null])), (q167, .inl (cA168, 0, .inl (fun _ => 0)))] := hD
    have hK : va_K (dC, dI) cls9 [(cA168, .int)] s := hK
    refine va_put (D := (dC, dI)) (ci := 1) (v := .ref q167) (ty := .array .int) (C := "ImageGcds$Poly") (T := TP) (N := 3) hx hb hk uP tP tP_ok nP hown hK hP hD hS 0 rfl rfl 1 (by decide) (hk _ k122) (fun _ h9 => h9) rfl (by decide +kernel) rfl rfl (Nat.le_of_ble_eq_true rfl) dP_init_23 (fun H locs hP hD hS => ?_)
    have hP : va_P (dC, dI) cls9 [(h0, .inr (1, [.int 0, .ref q167, .null])), (q167, .inl (cA168, 0, .inl (fun _ => 0)))] H := hP
    have hD : va_D A [(h0, .inr (1, [.int 0, .ref q167, .null])), (q167, .inl (cA168, 0, .inl (fun _ => 0)))] := hD
    refine lv_aload_n hx hb dP_init_26 rfl (lv_at hl 1 rfl) ?_
    refine lv_iload_n hx hb dP_init_27 rfl (lv_at hl 0 rfl) ?_
    refine va_newa (ty := .int) (atype := .int) (a0 := (0, .inl (fun _ => 0))) (N' := 0) hx hb (hk _ k101) rfl hK hP hD hS hA (fun cA => vp_cell_i cA _ _) (by decide +kernel) (by decide +kernel) (by decide +kernel) (Nat.le_of_ble_eq_true rfl) (Nat.le_of_ble_eq_true rfl) dP_init_28 (fun q169 cA170 H hK hP hD hS => ?_)
    have hP : va_P (dC, dI) cls9 [(h0, .inr (1, [.int 0, .ref q167, .null])), (q167, .inl (cA168, 0, .inl (fun _ => 0))), (q169, .inl (cA170, 0, .inl (fun _ => 0)))] H := hP
    have hD : va_D A [(h0, .inr (1, [.int 0, .ref q167, .null])), (q167, .inl (cA168, 0, .inl (fun _ => 0))), (q169, .inl (cA170, 0, .inl (fun _ => 0)))] := hD
    have hK : va_K (dC, dI) cls9 [(cA168, .int), (cA170, .int)] s := hK
    refine va_put (D := (dC, dI)) (ci := 1) (v := .ref q169) (ty := .array .int) (C := "ImageGcds$Poly") (T := TP) (N := 3) hx hb hk uP tP tP_ok nP hown hK hP hD hS 0 rfl rfl 2 (by decide) (hk _ k123) (fun _ h9 => h9) rfl (by decide +kernel) rfl rfl (Nat.le_of_ble_eq_true rfl) dP_init_30 (fun H locs hP hD hS => ?_)
    have hP : va_P (dC, dI) cls9 [(h0, .inr (1, [.int 0, .ref q167, .ref q169])), (q167, .inl (cA168, 0, .inl (fun _ => 0))), (q169, .inl (cA170, 0, .inl (fun _ => 0)))] H := hP
    have hD : va_D A [(h0, .inr (1, [.int 0, .ref q167, .ref q169])), (q167, .inl (cA168, 0, .inl (fun _ => 0))), (q169, .inl (cA170, 0, .inl (fun _ => 0)))] := hD
    have hP9 := hP.sub (ws' := [(h0, .inr (1, [.int 0, .ref q167, .ref q169]))]) [0] rfl
    have hD9 := hD.sub (ws' := [(h0, .inr (1, [.int 0, .ref q167, .ref q169]))]) [0] (by decide) rfl
    have hK9 := hK.sub (tys' := []) [] rfl
    refine W.widen (k := 2) (n := 0) (Nat.le_of_ble_eq_true rfl) (Nat.le_of_ble_eq_true rfl) ?_
    exact W.vret hx hb hr (fun t ht hW => ⟨⟨(), rfl, trivial, _, _, by rw [ht]; exact hP9, va_K.moved hW.alike hK9, hD9⟩, hS.F ht⟩) hS.2.2 dP_init_33
  · skip
    exact absurd c166 (by decide)
set_option maxHeartbeats 4000000 in
set_option maxRecDepth 100000 in
theorem cG_count (l : Launch) (dC : Nat → ClassId) (dI : Nat → Nat → Nat) (h0 : Nat) (le : Int32) (qp sa : Nat) : Met l yG_count wG_count ({ frames := 0, cells := 0, slots := 0, locals := 0 }) (va_Pc [.ref h0] (gU dC dI h0 le qp sa)) (vp_Si (fun r => r = 0)) 0 0 (fun _ => False) := by
  refine Met.ofW (cc := bG_count) (maxL := 1) (ret := (some .int)) (by decide) rfl ?_
  intro p e s m args below meth c s₁ B hml hv
  obtain ⟨rfl, hU⟩ := hv
  have hx := B.exec
  have hb := B.bytes
  have hr := B.returns
  have hts := atoms_spec (ws := wG_count) B.pre
  have hk : ∀ w ∈ W0, w.before _ s = true := fun w h => hts w (List.mem_cons_of_mem _ h)
  have hown : s.vm.findClass "ImageGcds" = some m.cls := findClass_of_methodNamed B.named
  have hlocks := B.notSynchronized
  have hl := lv_entry ([.ref h0]) (n := 1) (Nat.le_of_ble_eq_true rfl)
  rw [lg_entry_eq]
  generalize (lg_sl ([.ref h0]) ++ List.replicate (1 - (lg_sl ([.ref h0])).length) Slot.unset).toArray = ls at hl ⊢
  have hl : lv_has ls 1 [(0, .ref h0)] := hl
  refine lv_aload_n hx hb dG_count_0 rfl (lv_at hl 0 rfl) ?_
  refine va_get (D := (dC, dI)) (ci := 0) (v := .int 0) (C := "ImageGcds") (T := TG) (N := 4) hx hb hk uG hown hU.2.1 hU.1 0 rfl rfl 2 (by decide) (hk _ k2) (fun _ h9 => h9) rfl dG_count_1 ?_
  exact W.iret (v := 0) hx hb hr (fun t ht hW => ⟨_, rfl, rfl, ht⟩) (fun q h => nomatch h) dG_count_4
set_option maxHeartbeats 4000000 in
set_option maxRecDepth 100000 in
theorem cL_cell (l : Launch) (b L : Nat) (xs : Nat → Int32) (hL : L < 2 ^ 31) : Met l yL_cell wL_cell ({ frames := 0, cells := 0, slots := 0, locals := 0 }) (va_Pc [.ref b, .int 0] (fun U => va_X b L xs U U.heap ∧ b < U.heap.size)) (vp_Si (fun _ => True)) 0 0 (fun _ => False) := by
  refine Met.ofW (cc := bL_cell) (maxL := 2) (ret := (some .int)) (by decide) rfl ?_
  intro p e s m args below meth c s₁ B hml hv
  obtain ⟨rfl, hX, hbl⟩ := hv
  have hx := B.exec
  have hb := B.bytes
  have hr := B.returns
  have hts := atoms_spec (ws := wL_cell) B.pre
  have hk : ∀ w ∈ W0, w.before _ s = true := fun w h => hts w (List.mem_cons_of_mem _ h)
  have hown : s.vm.findClass "ImageGcdsLaw" = some m.cls := findClass_of_methodNamed B.named
  have hlocks := B.notSynchronized
  have hl := lv_entry ([.ref b, .int 0]) (n := 2) (Nat.le_of_ble_eq_true rfl)
  rw [lg_entry_eq]
  generalize (lg_sl ([.ref b, .int 0]) ++ List.replicate (2 - (lg_sl ([.ref b, .int 0])).length) Slot.unset).toArray = ls at hl ⊢
  have hl : lv_has ls 2 [(0, .ref b), (1, .int 0)] := hl
  have hS : va_S (fun q : Nat => s.heap.size ≤ q) s.heap s.heap [] := va_S.rf
  have hbA : ¬ (fun q : Nat => s.heap.size ≤ q) b := Nat.not_le.mpr hbl
  refine lv_iload_n hx hb dL_cell_0 rfl (lv_at hl 1 rfl) ?_
  refine lv_aload_n hx hb dL_cell_1 rfl (lv_at hl 0 rfl) ?_
  refine va_slen hx hb hX hbl hbA hS dL_cell_2 ?_
  refine lv_icmp_ge (tgt := 12) hx hb dL_cell_3 (by decide) (fun c171 => ?_) (fun c171 => ?_)
  · skip
    refine lv_iconst (v := 0) hx hb dL_cell_12 (by decide) ?_
    exact W.iret (v := 0) hx hb hr (fun t ht hW => ⟨_, rfl, trivial, ht⟩) (fun q h => nomatch h) dL_cell_13
  · skip
    refine lv_aload_n hx hb dL_cell_6 rfl (lv_at hl 0 rfl) ?_
    refine lv_iload_n hx hb dL_cell_7 rfl (lv_at hl 1 rfl) ?_
    have hL0 : 0 < L := by
      rcases Nat.eq_zero_or_pos L with q | q
      · subst q; exact absurd (by decide) c171
      · exact q
    have hin : vp_in 0 L := by rw [← nI_0]; exact vp_in_nI hL0 hL
    refine va_sld hx hb hX hbl hbA hS hin dL_cell_8 ?_
    refine lv_topi (fun v172 ev172 => ?_)
    refine lv_goto (tgt := 13) hx hb dL_cell_9 (by decide) ?_
    exact W.iret (v := v172) hx hb hr (fun t ht hW => ⟨_, rfl, trivial, ht⟩) (fun q h => nomatch h) dL_cell_13
