set_option maxHeartbeats 4000000 in
set_option maxRecDepth 100000 in
theorem cG_held (l : Launch) (htr : l.stackTraces = false) (dC : Nat → ClassId) (dI : Nat → Nat → Nat) (h0 : Nat) (le : Int32) (qp sa : Nat) (p0 : Int32) : th_Met l yG_held wG_held ({ frames := 6, cells := 1, slots := 6, locals := 82 }) (va_Pc [.ref h0, .int p0] (gU dC dI h0 le qp sa)) th_X 1 6 := by
  refine th_ofW (cc := bG_held) (maxL := 2) (ret := (some (.object "ImageGcds$Poly"))) (by decide) rfl ?_
  intro p e s m args below meth c s₁ B hml hno hv
  obtain ⟨rfl, hU⟩ := hv
  have hx := B.exec
  have hb := B.bytes
  have hr := B.returns
  have hts := atoms_spec (ws := wG_held) B.pre
  have hk : ∀ w ∈ W0, w.before _ s = true := fun w h => hts w (List.mem_cons_of_mem _ h)
  have hown : s.vm.findClass "ImageGcds" = some m.cls := findClass_of_methodNamed B.named
  have hlocks := B.notSynchronized
  have hl := lv_entry ([.ref h0, .int p0]) (n := 2) (Nat.le_of_ble_eq_true rfl)
  rw [lg_entry_eq]
  generalize (lg_sl ([.ref h0, .int p0]) ++ List.replicate (2 - (lg_sl ([.ref h0, .int p0])).length) Slot.unset).toArray = ls at hl ⊢
  have hl : lv_has ls 2 [(0, .ref h0), (1, .int p0)] := hl
  refine lv_iload_n hx hb dG_held_0 rfl (lv_at hl 1 rfl) ?_
  refine lv_if_lt (tgt := 21) hx hb dG_held_1 (by decide) (fun c1 => ?_) (fun c1 => ?_)
  · skip
    exact th_new hx hb hml htr hno (ic := 141) (ix := 137) (ik := 139) (own := "ImageGcds") (cls := th_X) (names := th_N) hown (by decide) (by decide) (th_good (fun w h => hk w (thI w h)) hU.2.2.1) (hk _ k0) (hk _ (thI _ (List.mem_filter.mpr ⟨by simp [Bundle.ownAtoms], rfl⟩))) (hk _ k1) hU.2.2.2 (Nat.le_refl _) hl.1 dG_held_21 dG_held_24 dG_held_25 dG_held_27 dG_held_30 (Nat.le_of_ble_eq_true rfl) (Nat.le_of_ble_eq_true rfl) (by decide) (by decide) hlocks
  · skip
    refine lv_iload_n hx hb dG_held_4 rfl (lv_at hl 1 rfl) ?_
    refine lv_aload_n hx hb dG_held_5 rfl (lv_at hl 0 rfl) ?_
    refine va_get (D := (dC, dI)) (ci := 0) (v := .int 0) (C := "ImageGcds") (T := TG) (N := 4) hx hb hk uG hown hU.2.1 hU.1 0 rfl rfl 2 (by decide) (hk _ k2) (fun _ h9 => h9) rfl dG_held_6 ?_
    refine lv_icmp_ge (tgt := 21) hx hb dG_held_9 (by decide) (fun c2 => ?_) (fun c2 => ?_)
    · skip
      exact th_new hx hb hml htr hno (ic := 141) (ix := 137) (ik := 139) (own := "ImageGcds") (cls := th_X) (names := th_N) hown (by decide) (by decide) (th_good (fun w h => hk w (thI w h)) hU.2.2.1) (hk _ k0) (hk _ (thI _ (List.mem_filter.mpr ⟨by simp [Bundle.ownAtoms], rfl⟩))) (hk _ k1) hU.2.2.2 (Nat.le_refl _) hl.1 dG_held_21 dG_held_24 dG_held_25 dG_held_27 dG_held_30 (Nat.le_of_ble_eq_true rfl) (Nat.le_of_ble_eq_true rfl) (by decide) (by decide) hlocks
    · skip
      exact absurd (Int32.not_lt.mp c1) c2
set_option maxHeartbeats 4000000 in
set_option maxRecDepth 100000 in
theorem cG_term (l : Launch) (htr : l.stackTraces = false) (dC : Nat → ClassId) (dI : Nat → Nat → Nat) (h0 : Nat) (le : Int32) (qp sa : Nat) (p0 : Int32) (p1 : Int64) (p2 : Int64) (p3 : Int32) : th_Met l yG_term wG_term ({ frames := 7, cells := 1, slots := 6, locals := 104 }) (va_Pc [.ref h0, .int p0, .long p1, .long p2, .int p3] (gU dC dI h0 le qp sa)) th_X 1 6 := by
  refine th_ofW (cc := bG_term) (maxL := 10) (ret := (some .boolean)) (by decide) rfl ?_
  intro p e s m args below meth c s₁ B hml hno hv
  obtain ⟨rfl, hU⟩ := hv
  have hx := B.exec
  have hb := B.bytes
  have hr := B.returns
  have hts := atoms_spec (ws := wG_term) B.pre
  have hk : ∀ w ∈ W0, w.before _ s = true := fun w h => hts w (List.mem_cons_of_mem _ h)
  have hown : s.vm.findClass "ImageGcds" = some m.cls := findClass_of_methodNamed B.named
  have hlocks := B.notSynchronized
  have hl := lv_entry ([.ref h0, .int p0, .long p1, .long p2, .int p3]) (n := 10) (Nat.le_of_ble_eq_true rfl)
  rw [lg_entry_eq]
  generalize (lg_sl ([.ref h0, .int p0, .long p1, .long p2, .int p3]) ++ List.replicate (10 - (lg_sl ([.ref h0, .int p0, .long p1, .long p2, .int p3])).length) Slot.unset).toArray = ls at hl ⊢
  have hl : lv_has ls 10 [(0, .ref h0), (1, .int p0), (2, .long p1), (4, .long p2), (6, .int p3)] := hl
  refine lv_aload_n hx hb dG_term_0 rfl (lv_at hl 0 rfl) ?_
  refine lv_iload_n hx hb dG_term_1 rfl (lv_at hl 1 rfl) ?_
  exact th_up hno rfl rfl rfl hlocks (th_runV (C := "ImageGcds") (As := [.int p0]) (rest := []) ⟨hx, hb, hml, hown, hk⟩ (cG_held l htr dC dI h0 le qp sa p0) (cwV 1 hk (gV k3 k4 k5 k6 k7) rfl rfl rfl (by decide +kernel) ⟨Nat.le_of_ble_eq_true rfl, Nat.le_of_ble_eq_true rfl⟩) ⟨gU.bl, va_recv hU.2.1 hU.1 (ci := 0) (q0 := 0) rfl rfl, fun U hU2 hW => ⟨rfl, hU.go hW (fun q _ => by rw [hU2])⟩⟩ rfl rfl hl.1 rfl (lv_room (Nat.le_of_ble_eq_true rfl)) dG_term_2 ⟨Nat.le_of_ble_eq_true rfl, Nat.le_of_ble_eq_true rfl⟩)
set_option maxHeartbeats 4000000 in
set_option maxRecDepth 100000 in
theorem cG_add (l : Launch) (htr : l.stackTraces = false) (dC : Nat → ClassId) (dI : Nat → Nat → Nat) (h0 : Nat) (le : Int32) (qp sa : Nat) (p0 : Int32) (p1 : Int32) : th_Met l yG_add wG_add ({ frames := 7, cells := 1, slots := 6, locals := 104 }) (va_Pc [.ref h0, .int p0, .int p1] (gU dC dI h0 le qp sa)) th_X 1 6 := by
  refine th_ofW (cc := bG_add) (maxL := 5) (ret := (some .int)) (by decide) rfl ?_
  intro p e s m args below meth c s₁ B hml hno hv
  obtain ⟨rfl, hU⟩ := hv
  have hx := B.exec
  have hb := B.bytes
  have hr := B.returns
  have hts := atoms_spec (ws := wG_add) B.pre
  have hk : ∀ w ∈ W0, w.before _ s = true := fun w h => hts w (List.mem_cons_of_mem _ h)
  have hown : s.vm.findClass "ImageGcds" = some m.cls := findClass_of_methodNamed B.named
  have hlocks := B.notSynchronized
  have hl := lv_entry ([.ref h0, .int p0, .int p1]) (n := 5) (Nat.le_of_ble_eq_true rfl)
  rw [lg_entry_eq]
  generalize (lg_sl ([.ref h0, .int p0, .int p1]) ++ List.replicate (5 - (lg_sl ([.ref h0, .int p0, .int p1])).length) Slot.unset).toArray = ls at hl ⊢
  have hl : lv_has ls 5 [(0, .ref h0), (1, .int p0), (2, .int p1)] := hl
  refine lv_aload_n hx hb dG_add_0 rfl (lv_at hl 0 rfl) ?_
  refine lv_iload_n hx hb dG_add_1 rfl (lv_at hl 1 rfl) ?_
  exact th_up hno rfl rfl rfl hlocks (th_runV (C := "ImageGcds") (As := [.int p0]) (rest := []) ⟨hx, hb, hml, hown, hk⟩ (cG_held l htr dC dI h0 le qp sa p0) (cwV 1 hk (gV k3 k4 k5 k6 k7) rfl rfl rfl (by decide +kernel) ⟨Nat.le_of_ble_eq_true rfl, Nat.le_of_ble_eq_true rfl⟩) ⟨gU.bl, va_recv hU.2.1 hU.1 (ci := 0) (q0 := 0) rfl rfl, fun U hU2 hW => ⟨rfl, hU.go hW (fun q _ => by rw [hU2])⟩⟩ rfl rfl hl.1 rfl (lv_room (Nat.le_of_ble_eq_true rfl)) dG_add_2 ⟨Nat.le_of_ble_eq_true rfl, Nat.le_of_ble_eq_true rfl⟩)
set_option maxHeartbeats 4000000 in
set_option maxRecDepth 100000 in
theorem cG_times (l : Launch) (htr : l.stackTraces = false) (dC : Nat → ClassId) (dI : Nat → Nat → Nat) (h0 : Nat) (le : Int32) (qp sa : Nat) (p0 : Int32) (p1 : Int32) : th_Met l yG_times wG_times ({ frames := 7, cells := 1, slots := 6, locals := 104 }) (va_Pc [.ref h0, .int p0, .int p1] (gU dC dI h0 le qp sa)) th_X 1 6 := by
  refine th_ofW (cc := bG_times) (maxL := 5) (ret := (some .int)) (by decide) rfl ?_
  intro p e s m args below meth c s₁ B hml hno hv
  obtain ⟨rfl, hU⟩ := hv
  have hx := B.exec
  have hb := B.bytes
  have hr := B.returns
  have hts := atoms_spec (ws := wG_times) B.pre
  have hk : ∀ w ∈ W0, w.before _ s = true := fun w h => hts w (List.mem_cons_of_mem _ h)
  have hown : s.vm.findClass "ImageGcds" = some m.cls := findClass_of_methodNamed B.named
  have hlocks := B.notSynchronized
  have hl := lv_entry ([.ref h0, .int p0, .int p1]) (n := 5) (Nat.le_of_ble_eq_true rfl)
  rw [lg_entry_eq]
  generalize (lg_sl ([.ref h0, .int p0, .int p1]) ++ List.replicate (5 - (lg_sl ([.ref h0, .int p0, .int p1])).length) Slot.unset).toArray = ls at hl ⊢
  have hl : lv_has ls 5 [(0, .ref h0), (1, .int p0), (2, .int p1)] := hl
  refine lv_aload_n hx hb dG_times_0 rfl (lv_at hl 0 rfl) ?_
  refine lv_iload_n hx hb dG_times_1 rfl (lv_at hl 1 rfl) ?_
  exact th_up hno rfl rfl rfl hlocks (th_runV (C := "ImageGcds") (As := [.int p0]) (rest := []) ⟨hx, hb, hml, hown, hk⟩ (cG_held l htr dC dI h0 le qp sa p0) (cwV 1 hk (gV k3 k4 k5 k6 k7) rfl rfl rfl (by decide +kernel) ⟨Nat.le_of_ble_eq_true rfl, Nat.le_of_ble_eq_true rfl⟩) ⟨gU.bl, va_recv hU.2.1 hU.1 (ci := 0) (q0 := 0) rfl rfl, fun U hU2 hW => ⟨rfl, hU.go hW (fun q _ => by rw [hU2])⟩⟩ rfl rfl hl.1 rfl (lv_room (Nat.le_of_ble_eq_true rfl)) dG_times_2 ⟨Nat.le_of_ble_eq_true rfl, Nat.le_of_ble_eq_true rfl⟩)
set_option maxHeartbeats 4000000 in
set_option maxRecDepth 100000 in
theorem cG_over (l : Launch) (htr : l.stackTraces = false) (dC : Nat → ClassId) (dI : Nat → Nat → Nat) (h0 : Nat) (le : Int32) (qp sa : Nat) (p0 : Int32) (p1 : Int32) : th_Met l yG_over wG_over ({ frames := 7, cells := 1, slots := 6, locals := 104 }) (va_Pc [.ref h0, .int p0, .int p1] (gU dC dI h0 le qp sa)) th_X 1 6 := by
  refine th_ofW (cc := bG_over) (maxL := 6) (ret := (some .int)) (by decide) rfl ?_
  intro p e s m args below meth c s₁ B hml hno hv
  obtain ⟨rfl, hU⟩ := hv
  have hx := B.exec
  have hb := B.bytes
  have hr := B.returns
  have hts := atoms_spec (ws := wG_over) B.pre
  have hk : ∀ w ∈ W0, w.before _ s = true := fun w h => hts w (List.mem_cons_of_mem _ h)
  have hown : s.vm.findClass "ImageGcds" = some m.cls := findClass_of_methodNamed B.named
  have hlocks := B.notSynchronized
  have hl := lv_entry ([.ref h0, .int p0, .int p1]) (n := 6) (Nat.le_of_ble_eq_true rfl)
  rw [lg_entry_eq]
  generalize (lg_sl ([.ref h0, .int p0, .int p1]) ++ List.replicate (6 - (lg_sl ([.ref h0, .int p0, .int p1])).length) Slot.unset).toArray = ls at hl ⊢
  have hl : lv_has ls 6 [(0, .ref h0), (1, .int p0), (2, .int p1)] := hl
  refine lv_aload_n hx hb dG_over_0 rfl (lv_at hl 0 rfl) ?_
  refine lv_iload_n hx hb dG_over_1 rfl (lv_at hl 1 rfl) ?_
  exact th_up hno rfl rfl rfl hlocks (th_runV (C := "ImageGcds") (As := [.int p0]) (rest := []) ⟨hx, hb, hml, hown, hk⟩ (cG_held l htr dC dI h0 le qp sa p0) (cwV 1 hk (gV k3 k4 k5 k6 k7) rfl rfl rfl (by decide +kernel) ⟨Nat.le_of_ble_eq_true rfl, Nat.le_of_ble_eq_true rfl⟩) ⟨gU.bl, va_recv hU.2.1 hU.1 (ci := 0) (q0 := 0) rfl rfl, fun U hU2 hW => ⟨rfl, hU.go hW (fun q _ => by rw [hU2])⟩⟩ rfl rfl hl.1 rfl (lv_room (Nat.le_of_ble_eq_true rfl)) dG_over_2 ⟨Nat.le_of_ble_eq_true rfl, Nat.le_of_ble_eq_true rfl⟩)
set_option maxHeartbeats 4000000 in
set_option maxRecDepth 100000 in
theorem cG_gcd (l : Launch) (htr : l.stackTraces = false) (dC : Nat → ClassId) (dI : Nat → Nat → Nat) (h0 : Nat) (le : Int32) (qp sa : Nat) (p0 : Int32) (p1 : Int32) : th_Met l yG_gcd wG_gcd ({ frames := 7, cells := 1, slots := 6, locals := 104 }) (va_Pc [.ref h0, .int p0, .int p1] (gU dC dI h0 le qp sa)) th_X 1 6 := by
  refine th_ofW (cc := bG_gcd) (maxL := 5) (ret := (some .int)) (by decide) rfl ?_
  intro p e s m args below meth c s₁ B hml hno hv
  obtain ⟨rfl, hU⟩ := hv
  have hx := B.exec
  have hb := B.bytes
  have hr := B.returns
  have hts := atoms_spec (ws := wG_gcd) B.pre
  have hk : ∀ w ∈ W0, w.before _ s = true := fun w h => hts w (List.mem_cons_of_mem _ h)
  have hown : s.vm.findClass "ImageGcds" = some m.cls := findClass_of_methodNamed B.named
  have hlocks := B.notSynchronized
  have hl := lv_entry ([.ref h0, .int p0, .int p1]) (n := 5) (Nat.le_of_ble_eq_true rfl)
  rw [lg_entry_eq]
  generalize (lg_sl ([.ref h0, .int p0, .int p1]) ++ List.replicate (5 - (lg_sl ([.ref h0, .int p0, .int p1])).length) Slot.unset).toArray = ls at hl ⊢
  have hl : lv_has ls 5 [(0, .ref h0), (1, .int p0), (2, .int p1)] := hl
  refine lv_aload_n hx hb dG_gcd_0 rfl (lv_at hl 0 rfl) ?_
  refine lv_iload_n hx hb dG_gcd_1 rfl (lv_at hl 1 rfl) ?_
  exact th_up hno rfl rfl rfl hlocks (th_runV (C := "ImageGcds") (As := [.int p0]) (rest := []) ⟨hx, hb, hml, hown, hk⟩ (cG_held l htr dC dI h0 le qp sa p0) (cwV 1 hk (gV k3 k4 k5 k6 k7) rfl rfl rfl (by decide +kernel) ⟨Nat.le_of_ble_eq_true rfl, Nat.le_of_ble_eq_true rfl⟩) ⟨gU.bl, va_recv hU.2.1 hU.1 (ci := 0) (q0 := 0) rfl rfl, fun U hU2 hW => ⟨rfl, hU.go hW (fun q _ => by rw [hU2])⟩⟩ rfl rfl hl.1 rfl (lv_room (Nat.le_of_ble_eq_true rfl)) dG_gcd_2 ⟨Nat.le_of_ble_eq_true rfl, Nat.le_of_ble_eq_true rfl⟩)
set_option maxHeartbeats 4000000 in
set_option maxRecDepth 100000 in
theorem cG_resultant (l : Launch) (htr : l.stackTraces = false) (dC : Nat → ClassId) (dI : Nat → Nat → Nat) (h0 : Nat) (le : Int32) (qp sa : Nat) (p0 : Int32) (p1 : Int32) (p2 : Int32) : th_Met l yG_resultant wG_resultant ({ frames := 7, cells := 1, slots := 6, locals := 104 }) (va_Pc [.ref h0, .int p0, .int p1, .int p2] (gU dC dI h0 le qp sa)) th_X 1 6 := by
  refine th_ofW (cc := bG_resultant) (maxL := 6) (ret := (some .int)) (by decide) rfl ?_
  intro p e s m args below meth c s₁ B hml hno hv
  obtain ⟨rfl, hU⟩ := hv
  have hx := B.exec
  have hb := B.bytes
  have hr := B.returns
  have hts := atoms_spec (ws := wG_resultant) B.pre
  have hk : ∀ w ∈ W0, w.before _ s = true := fun w h => hts w (List.mem_cons_of_mem _ h)
  have hown : s.vm.findClass "ImageGcds" = some m.cls := findClass_of_methodNamed B.named
  have hlocks := B.notSynchronized
  have hl := lv_entry ([.ref h0, .int p0, .int p1, .int p2]) (n := 6) (Nat.le_of_ble_eq_true rfl)
  rw [lg_entry_eq]
  generalize (lg_sl ([.ref h0, .int p0, .int p1, .int p2]) ++ List.replicate (6 - (lg_sl ([.ref h0, .int p0, .int p1, .int p2])).length) Slot.unset).toArray = ls at hl ⊢
  have hl : lv_has ls 6 [(0, .ref h0), (1, .int p0), (2, .int p1), (3, .int p2)] := hl
  refine lv_aload_n hx hb dG_resultant_0 rfl (lv_at hl 0 rfl) ?_
  refine lv_iload_n hx hb dG_resultant_1 rfl (lv_at hl 1 rfl) ?_
  exact th_up hno rfl rfl rfl hlocks (th_runV (C := "ImageGcds") (As := [.int p0]) (rest := []) ⟨hx, hb, hml, hown, hk⟩ (cG_held l htr dC dI h0 le qp sa p0) (cwV 1 hk (gV k3 k4 k5 k6 k7) rfl rfl rfl (by decide +kernel) ⟨Nat.le_of_ble_eq_true rfl, Nat.le_of_ble_eq_true rfl⟩) ⟨gU.bl, va_recv hU.2.1 hU.1 (ci := 0) (q0 := 0) rfl rfl, fun U hU2 hW => ⟨rfl, hU.go hW (fun q _ => by rw [hU2])⟩⟩ rfl rfl hl.1 rfl (lv_room (Nat.le_of_ble_eq_true rfl)) dG_resultant_2 ⟨Nat.le_of_ble_eq_true rfl, Nat.le_of_ble_eq_true rfl⟩)
set_option maxHeartbeats 4000000 in
set_option maxRecDepth 100000 in
theorem cG_slope (l : Launch) (htr : l.stackTraces = false) (dC : Nat → ClassId) (dI : Nat → Nat → Nat) (h0 : Nat) (le : Int32) (qp sa : Nat) (p0 : Int32) (p1 : Int32) : th_Met l yG_slope wG_slope ({ frames := 7, cells := 1, slots := 6, locals := 104 }) (va_Pc [.ref h0, .int p0, .int p1] (gU dC dI h0 le qp sa)) th_X 1 6 := by
  refine th_ofW (cc := bG_slope) (maxL := 4) (ret := (some .int)) (by decide) rfl ?_
  intro p e s m args below meth c s₁ B hml hno hv
  obtain ⟨rfl, hU⟩ := hv
  have hx := B.exec
  have hb := B.bytes
  have hr := B.returns
  have hts := atoms_spec (ws := wG_slope) B.pre
  have hk : ∀ w ∈ W0, w.before _ s = true := fun w h => hts w (List.mem_cons_of_mem _ h)
  have hown : s.vm.findClass "ImageGcds" = some m.cls := findClass_of_methodNamed B.named
  have hlocks := B.notSynchronized
  have hl := lv_entry ([.ref h0, .int p0, .int p1]) (n := 4) (Nat.le_of_ble_eq_true rfl)
  rw [lg_entry_eq]
  generalize (lg_sl ([.ref h0, .int p0, .int p1]) ++ List.replicate (4 - (lg_sl ([.ref h0, .int p0, .int p1])).length) Slot.unset).toArray = ls at hl ⊢
  have hl : lv_has ls 4 [(0, .ref h0), (1, .int p0), (2, .int p1)] := hl
  refine lv_aload_n hx hb dG_slope_0 rfl (lv_at hl 0 rfl) ?_
  refine lv_iload_n hx hb dG_slope_1 rfl (lv_at hl 1 rfl) ?_
  exact th_up hno rfl rfl rfl hlocks (th_runV (C := "ImageGcds") (As := [.int p0]) (rest := []) ⟨hx, hb, hml, hown, hk⟩ (cG_held l htr dC dI h0 le qp sa p0) (cwV 1 hk (gV k3 k4 k5 k6 k7) rfl rfl rfl (by decide +kernel) ⟨Nat.le_of_ble_eq_true rfl, Nat.le_of_ble_eq_true rfl⟩) ⟨gU.bl, va_recv hU.2.1 hU.1 (ci := 0) (q0 := 0) rfl rfl, fun U hU2 hW => ⟨rfl, hU.go hW (fun q _ => by rw [hU2])⟩⟩ rfl rfl hl.1 rfl (lv_room (Nat.le_of_ble_eq_true rfl)) dG_slope_2 ⟨Nat.le_of_ble_eq_true rfl, Nat.le_of_ble_eq_true rfl⟩)
set_option maxHeartbeats 4000000 in
set_option maxRecDepth 100000 in
theorem cG_content (l : Launch) (htr : l.stackTraces = false) (dC : Nat → ClassId) (dI : Nat → Nat → Nat) (h0 : Nat) (le : Int32) (qp sa : Nat) (p0 : Int32) (p1 : Int32) : th_Met l yG_content wG_content ({ frames := 7, cells := 1, slots := 6, locals := 104 }) (va_Pc [.ref h0, .int p0, .int p1] (gU dC dI h0 le qp sa)) th_X 1 6 := by
  refine th_ofW (cc := bG_content) (maxL := 4) (ret := (some .int)) (by decide) rfl ?_
  intro p e s m args below meth c s₁ B hml hno hv
  obtain ⟨rfl, hU⟩ := hv
  have hx := B.exec
  have hb := B.bytes
  have hr := B.returns
  have hts := atoms_spec (ws := wG_content) B.pre
  have hk : ∀ w ∈ W0, w.before _ s = true := fun w h => hts w (List.mem_cons_of_mem _ h)
  have hown : s.vm.findClass "ImageGcds" = some m.cls := findClass_of_methodNamed B.named
  have hlocks := B.notSynchronized
  have hl := lv_entry ([.ref h0, .int p0, .int p1]) (n := 4) (Nat.le_of_ble_eq_true rfl)
  rw [lg_entry_eq]
  generalize (lg_sl ([.ref h0, .int p0, .int p1]) ++ List.replicate (4 - (lg_sl ([.ref h0, .int p0, .int p1])).length) Slot.unset).toArray = ls at hl ⊢
  have hl : lv_has ls 4 [(0, .ref h0), (1, .int p0), (2, .int p1)] := hl
  refine lv_aload_n hx hb dG_content_0 rfl (lv_at hl 0 rfl) ?_
  refine lv_iload_n hx hb dG_content_1 rfl (lv_at hl 1 rfl) ?_
  exact th_up hno rfl rfl rfl hlocks (th_runV (C := "ImageGcds") (As := [.int p0]) (rest := []) ⟨hx, hb, hml, hown, hk⟩ (cG_held l htr dC dI h0 le qp sa p0) (cwV 1 hk (gV k3 k4 k5 k6 k7) rfl rfl rfl (by decide +kernel) ⟨Nat.le_of_ble_eq_true rfl, Nat.le_of_ble_eq_true rfl⟩) ⟨gU.bl, va_recv hU.2.1 hU.1 (ci := 0) (q0 := 0) rfl rfl, fun U hU2 hW => ⟨rfl, hU.go hW (fun q _ => by rw [hU2])⟩⟩ rfl rfl hl.1 rfl (lv_room (Nat.le_of_ble_eq_true rfl)) dG_content_2 ⟨Nat.le_of_ble_eq_true rfl, Nat.le_of_ble_eq_true rfl⟩)
set_option maxHeartbeats 4000000 in
set_option maxRecDepth 100000 in
theorem cG_part (l : Launch) (htr : l.stackTraces = false) (dC : Nat → ClassId) (dI : Nat → Nat → Nat) (h0 : Nat) (le : Int32) (qp sa : Nat) (p0 : Int32) (p1 : Int32) : th_Met l yG_part wG_part ({ frames := 7, cells := 1, slots := 6, locals := 104 }) (va_Pc [.ref h0, .int p0, .int p1] (gU dC dI h0 le qp sa)) th_X 1 6 := by
  refine th_ofW (cc := bG_part) (maxL := 4) (ret := (some .int)) (by decide) rfl ?_
  intro p e s m args below meth c s₁ B hml hno hv
  obtain ⟨rfl, hU⟩ := hv
  have hx := B.exec
  have hb := B.bytes
  have hr := B.returns
  have hts := atoms_spec (ws := wG_part) B.pre
  have hk : ∀ w ∈ W0, w.before _ s = true := fun w h => hts w (List.mem_cons_of_mem _ h)
  have hown : s.vm.findClass "ImageGcds" = some m.cls := findClass_of_methodNamed B.named
  have hlocks := B.notSynchronized
  have hl := lv_entry ([.ref h0, .int p0, .int p1]) (n := 4) (Nat.le_of_ble_eq_true rfl)
  rw [lg_entry_eq]
  generalize (lg_sl ([.ref h0, .int p0, .int p1]) ++ List.replicate (4 - (lg_sl ([.ref h0, .int p0, .int p1])).length) Slot.unset).toArray = ls at hl ⊢
  have hl : lv_has ls 4 [(0, .ref h0), (1, .int p0), (2, .int p1)] := hl
  refine lv_aload_n hx hb dG_part_0 rfl (lv_at hl 0 rfl) ?_
  refine lv_iload_n hx hb dG_part_1 rfl (lv_at hl 1 rfl) ?_
  exact th_up hno rfl rfl rfl hlocks (th_runV (C := "ImageGcds") (As := [.int p0]) (rest := []) ⟨hx, hb, hml, hown, hk⟩ (cG_held l htr dC dI h0 le qp sa p0) (cwV 1 hk (gV k3 k4 k5 k6 k7) rfl rfl rfl (by decide +kernel) ⟨Nat.le_of_ble_eq_true rfl, Nat.le_of_ble_eq_true rfl⟩) ⟨gU.bl, va_recv hU.2.1 hU.1 (ci := 0) (q0 := 0) rfl rfl, fun U hU2 hW => ⟨rfl, hU.go hW (fun q _ => by rw [hU2])⟩⟩ rfl rfl hl.1 rfl (lv_room (Nat.le_of_ble_eq_true rfl)) dG_part_2 ⟨Nat.le_of_ble_eq_true rfl, Nat.le_of_ble_eq_true rfl⟩)
set_option maxHeartbeats 4000000 in
set_option maxRecDepth 100000 in
theorem cG_image (l : Launch) (htr : l.stackTraces = false) (dC : Nat → ClassId) (dI : Nat → Nat → Nat) (h0 : Nat) (le : Int32) (qp sa : Nat) (p0 : Int32) (p1 : Int32) (p2 : Int32) : th_Met l yG_image wG_image ({ frames := 7, cells := 1, slots := 6, locals := 104 }) (va_Pc [.ref h0, .int p0, .int p1, .int p2] (gU dC dI h0 le qp sa)) th_X 1 6 := by
  refine th_ofW (cc := bG_image) (maxL := 5) (ret := (some .int)) (by decide) rfl ?_
  intro p e s m args below meth c s₁ B hml hno hv
  obtain ⟨rfl, hU⟩ := hv
  have hx := B.exec
  have hb := B.bytes
  have hr := B.returns
  have hts := atoms_spec (ws := wG_image) B.pre
  have hk : ∀ w ∈ W0, w.before _ s = true := fun w h => hts w (List.mem_cons_of_mem _ h)
  have hown : s.vm.findClass "ImageGcds" = some m.cls := findClass_of_methodNamed B.named
  have hlocks := B.notSynchronized
  have hl := lv_entry ([.ref h0, .int p0, .int p1, .int p2]) (n := 5) (Nat.le_of_ble_eq_true rfl)
  rw [lg_entry_eq]
  generalize (lg_sl ([.ref h0, .int p0, .int p1, .int p2]) ++ List.replicate (5 - (lg_sl ([.ref h0, .int p0, .int p1, .int p2])).length) Slot.unset).toArray = ls at hl ⊢
  have hl : lv_has ls 5 [(0, .ref h0), (1, .int p0), (2, .int p1), (3, .int p2)] := hl
  refine lv_aload_n hx hb dG_image_0 rfl (lv_at hl 0 rfl) ?_
  refine lv_iload_n hx hb dG_image_1 rfl (lv_at hl 1 rfl) ?_
  exact th_up hno rfl rfl rfl hlocks (th_runV (C := "ImageGcds") (As := [.int p0]) (rest := []) ⟨hx, hb, hml, hown, hk⟩ (cG_held l htr dC dI h0 le qp sa p0) (cwV 1 hk (gV k3 k4 k5 k6 k7) rfl rfl rfl (by decide +kernel) ⟨Nat.le_of_ble_eq_true rfl, Nat.le_of_ble_eq_true rfl⟩) ⟨gU.bl, va_recv hU.2.1 hU.1 (ci := 0) (q0 := 0) rfl rfl, fun U hU2 hW => ⟨rfl, hU.go hW (fun q _ => by rw [hU2])⟩⟩ rfl rfl hl.1 rfl (lv_room (Nat.le_of_ble_eq_true rfl)) dG_image_2 ⟨Nat.le_of_ble_eq_true rfl, Nat.le_of_ble_eq_true rfl⟩)
set_option maxHeartbeats 4000000 in
set_option maxRecDepth 100000 in
theorem cG_equal (l : Launch) (htr : l.stackTraces = false) (dC : Nat → ClassId) (dI : Nat → Nat → Nat) (h0 : Nat) (le : Int32) (qp sa : Nat) (p0 : Int32) (p1 : Int32) : th_Met l yG_equal wG_equal ({ frames := 7, cells := 1, slots := 6, locals := 104 }) (va_Pc [.ref h0, .int p0, .int p1] (gU dC dI h0 le qp sa)) th_X 1 6 := by
  refine th_ofW (cc := bG_equal) (maxL := 5) (ret := (some .boolean)) (by decide) rfl ?_
  intro p e s m args below meth c s₁ B hml hno hv
  obtain ⟨rfl, hU⟩ := hv
  have hx := B.exec
  have hb := B.bytes
  have hr := B.returns
  have hts := atoms_spec (ws := wG_equal) B.pre
  have hk : ∀ w ∈ W0, w.before _ s = true := fun w h => hts w (List.mem_cons_of_mem _ h)
  have hown : s.vm.findClass "ImageGcds" = some m.cls := findClass_of_methodNamed B.named
  have hlocks := B.notSynchronized
  have hl := lv_entry ([.ref h0, .int p0, .int p1]) (n := 5) (Nat.le_of_ble_eq_true rfl)
  rw [lg_entry_eq]
  generalize (lg_sl ([.ref h0, .int p0, .int p1]) ++ List.replicate (5 - (lg_sl ([.ref h0, .int p0, .int p1])).length) Slot.unset).toArray = ls at hl ⊢
  have hl : lv_has ls 5 [(0, .ref h0), (1, .int p0), (2, .int p1)] := hl
  refine lv_aload_n hx hb dG_equal_0 rfl (lv_at hl 0 rfl) ?_
  refine lv_iload_n hx hb dG_equal_1 rfl (lv_at hl 1 rfl) ?_
  exact th_up hno rfl rfl rfl hlocks (th_runV (C := "ImageGcds") (As := [.int p0]) (rest := []) ⟨hx, hb, hml, hown, hk⟩ (cG_held l htr dC dI h0 le qp sa p0) (cwV 1 hk (gV k3 k4 k5 k6 k7) rfl rfl rfl (by decide +kernel) ⟨Nat.le_of_ble_eq_true rfl, Nat.le_of_ble_eq_true rfl⟩) ⟨gU.bl, va_recv hU.2.1 hU.1 (ci := 0) (q0 := 0) rfl rfl, fun U hU2 hW => ⟨rfl, hU.go hW (fun q _ => by rw [hU2])⟩⟩ rfl rfl hl.1 rfl (lv_room (Nat.le_of_ble_eq_true rfl)) dG_equal_2 ⟨Nat.le_of_ble_eq_true rfl, Nat.le_of_ble_eq_true rfl⟩)
set_option maxHeartbeats 4000000 in
set_option maxRecDepth 100000 in
theorem cG_terms (l : Launch) (htr : l.stackTraces = false) (dC : Nat → ClassId) (dI : Nat → Nat → Nat) (h0 : Nat) (le : Int32) (qp sa : Nat) (p0 : Int32) : th_Met l yG_terms wG_terms ({ frames := 7, cells := 1, slots := 6, locals := 104 }) (va_Pc [.ref h0, .int p0] (gU dC dI h0 le qp sa)) th_X 1 6 := by
  refine th_ofW (cc := bG_terms) (maxL := 2) (ret := (some .int)) (by decide) rfl ?_
  intro p e s m args below meth c s₁ B hml hno hv
  obtain ⟨rfl, hU⟩ := hv
  have hx := B.exec
  have hb := B.bytes
  have hr := B.returns
  have hts := atoms_spec (ws := wG_terms) B.pre
  have hk : ∀ w ∈ W0, w.before _ s = true := fun w h => hts w (List.mem_cons_of_mem _ h)
  have hown : s.vm.findClass "ImageGcds" = some m.cls := findClass_of_methodNamed B.named
  have hlocks := B.notSynchronized
  have hl := lv_entry ([.ref h0, .int p0]) (n := 2) (Nat.le_of_ble_eq_true rfl)
  rw [lg_entry_eq]
  generalize (lg_sl ([.ref h0, .int p0]) ++ List.replicate (2 - (lg_sl ([.ref h0, .int p0])).length) Slot.unset).toArray = ls at hl ⊢
  have hl : lv_has ls 2 [(0, .ref h0), (1, .int p0)] := hl
  refine lv_aload_n hx hb dG_terms_0 rfl (lv_at hl 0 rfl) ?_
  refine lv_iload_n hx hb dG_terms_1 rfl (lv_at hl 1 rfl) ?_
  exact th_up hno rfl rfl rfl hlocks (th_runV (C := "ImageGcds") (As := [.int p0]) (rest := []) ⟨hx, hb, hml, hown, hk⟩ (cG_held l htr dC dI h0 le qp sa p0) (cwV 1 hk (gV k3 k4 k5 k6 k7) rfl rfl rfl (by decide +kernel) ⟨Nat.le_of_ble_eq_true rfl, Nat.le_of_ble_eq_true rfl⟩) ⟨gU.bl, va_recv hU.2.1 hU.1 (ci := 0) (q0 := 0) rfl rfl, fun U hU2 hW => ⟨rfl, hU.go hW (fun q _ => by rw [hU2])⟩⟩ rfl rfl hl.1 rfl (lv_room (Nat.le_of_ble_eq_true rfl)) dG_terms_2 ⟨Nat.le_of_ble_eq_true rfl, Nat.le_of_ble_eq_true rfl⟩)
set_option maxHeartbeats 4000000 in
set_option maxRecDepth 100000 in
theorem cG_at (l : Launch) (htr : l.stackTraces = false) (dC : Nat → ClassId) (dI : Nat → Nat → Nat) (h0 : Nat) (le : Int32) (qp sa : Nat) (p0 : Int32) (p1 : Int32) (p2 : Int32) : th_Met l yG_at wG_at ({ frames := 7, cells := 1, slots := 6, locals := 104 }) (va_Pc [.ref h0, .int p0, .int p1, .int p2] (gU dC dI h0 le qp sa)) th_X 1 6 := by
  refine th_ofW (cc := bG_at) (maxL := 5) (ret := (some .int)) (by decide) rfl ?_
  intro p e s m args below meth c s₁ B hml hno hv
  obtain ⟨rfl, hU⟩ := hv
  have hx := B.exec
  have hb := B.bytes
  have hr := B.returns
  have hts := atoms_spec (ws := wG_at) B.pre
  have hk : ∀ w ∈ W0, w.before _ s = true := fun w h => hts w (List.mem_cons_of_mem _ h)
  have hown : s.vm.findClass "ImageGcds" = some m.cls := findClass_of_methodNamed B.named
  have hlocks := B.notSynchronized
  have hl := lv_entry ([.ref h0, .int p0, .int p1, .int p2]) (n := 5) (Nat.le_of_ble_eq_true rfl)
  rw [lg_entry_eq]
  generalize (lg_sl ([.ref h0, .int p0, .int p1, .int p2]) ++ List.replicate (5 - (lg_sl ([.ref h0, .int p0, .int p1, .int p2])).length) Slot.unset).toArray = ls at hl ⊢
  have hl : lv_has ls 5 [(0, .ref h0), (1, .int p0), (2, .int p1), (3, .int p2)] := hl
  refine lv_aload_n hx hb dG_at_0 rfl (lv_at hl 0 rfl) ?_
  refine lv_iload_n hx hb dG_at_1 rfl (lv_at hl 1 rfl) ?_
  exact th_up hno rfl rfl rfl hlocks (th_runV (C := "ImageGcds") (As := [.int p0]) (rest := []) ⟨hx, hb, hml, hown, hk⟩ (cG_held l htr dC dI h0 le qp sa p0) (cwV 1 hk (gV k3 k4 k5 k6 k7) rfl rfl rfl (by decide +kernel) ⟨Nat.le_of_ble_eq_true rfl, Nat.le_of_ble_eq_true rfl⟩) ⟨gU.bl, va_recv hU.2.1 hU.1 (ci := 0) (q0 := 0) rfl rfl, fun U hU2 hW => ⟨rfl, hU.go hW (fun q _ => by rw [hU2])⟩⟩ rfl rfl hl.1 rfl (lv_room (Nat.le_of_ble_eq_true rfl)) dG_at_2 ⟨Nat.le_of_ble_eq_true rfl, Nat.le_of_ble_eq_true rfl⟩)
set_option maxHeartbeats 4000000 in
set_option maxRecDepth 100000 in
theorem cG_degree (l : Launch) (htr : l.stackTraces = false) (dC : Nat → ClassId) (dI : Nat → Nat → Nat) (h0 : Nat) (le : Int32) (qp sa : Nat) (p0 : Int32) (p1 : Int32) : th_Met l yG_degree wG_degree ({ frames := 7, cells := 1, slots := 6, locals := 104 }) (va_Pc [.ref h0, .int p0, .int p1] (gU dC dI h0 le qp sa)) th_X 1 6 := by
  refine th_ofW (cc := bG_degree) (maxL := 4) (ret := (some .int)) (by decide) rfl ?_
  intro p e s m args below meth c s₁ B hml hno hv
  obtain ⟨rfl, hU⟩ := hv
  have hx := B.exec
  have hb := B.bytes
  have hr := B.returns
  have hts := atoms_spec (ws := wG_degree) B.pre
  have hk : ∀ w ∈ W0, w.before _ s = true := fun w h => hts w (List.mem_cons_of_mem _ h)
  have hown : s.vm.findClass "ImageGcds" = some m.cls := findClass_of_methodNamed B.named
  have hlocks := B.notSynchronized
  have hl := lv_entry ([.ref h0, .int p0, .int p1]) (n := 4) (Nat.le_of_ble_eq_true rfl)
  rw [lg_entry_eq]
  generalize (lg_sl ([.ref h0, .int p0, .int p1]) ++ List.replicate (4 - (lg_sl ([.ref h0, .int p0, .int p1])).length) Slot.unset).toArray = ls at hl ⊢
  have hl : lv_has ls 4 [(0, .ref h0), (1, .int p0), (2, .int p1)] := hl
  refine lv_aload_n hx hb dG_degree_0 rfl (lv_at hl 0 rfl) ?_
  refine lv_iload_n hx hb dG_degree_1 rfl (lv_at hl 1 rfl) ?_
  exact th_up hno rfl rfl rfl hlocks (th_runV (C := "ImageGcds") (As := [.int p0]) (rest := []) ⟨hx, hb, hml, hown, hk⟩ (cG_held l htr dC dI h0 le qp sa p0) (cwV 1 hk (gV k3 k4 k5 k6 k7) rfl rfl rfl (by decide +kernel) ⟨Nat.le_of_ble_eq_true rfl, Nat.le_of_ble_eq_true rfl⟩) ⟨gU.bl, va_recv hU.2.1 hU.1 (ci := 0) (q0 := 0) rfl rfl, fun U hU2 hW => ⟨rfl, hU.go hW (fun q _ => by rw [hU2])⟩⟩ rfl rfl hl.1 rfl (lv_room (Nat.le_of_ble_eq_true rfl)) dG_degree_2 ⟨Nat.le_of_ble_eq_true rfl, Nat.le_of_ble_eq_true rfl⟩)
