set_option maxHeartbeats 4000000 in
set_option maxRecDepth 100000 in
theorem cL_term (l : Launch) (htr : l.stackTraces = false) (dC : Nat → ClassId) (dI : Nat → Nat → Nat) (h0 : Nat) (le : Int32) (qp sa : Nat) (sz : Nat) (p1 : Int32) (p2 : Int64) (p3 : Int64) (p4 : Int32) (p5 : Nat) : Met l yL_term wL_term ({ frames := 8, cells := 1, slots := 6, locals := 140 }) (va_Pc [.ref h0, .int p1, .long p2, .long p3, .int p4, .ref p5] (fun U => U.heap.size = sz ∧ gU dC dI h0 le qp sa U)) (va_Qi (fun (r : Int32) (_ : Unit) => r = 1) (fun _ _ => True) (fun q => sz ≤ q)) 1 6 (fun q => sz ≤ q) := by
  refine va_MetW (cc := bL_term) (maxL := 9) (ret := (some .int)) (by decide) rfl ?_
  intro p e s m args below meth c s₁ B hml hv
  obtain ⟨rfl, hsz, hU⟩ := hv
  have hx := B.exec
  have hb := B.bytes
  have hr := B.returns
  have hts := atoms_spec (ws := wL_term) B.pre
  have hk : ∀ w ∈ W0, w.before _ s = true := fun w h => hts w (List.mem_cons_of_mem _ h)
  have hown : s.vm.findClass "ImageGcdsLaw" = some m.cls := findClass_of_methodNamed B.named
  have hlocks := B.notSynchronized
  subst hsz
  have htab : c.exceptionTable.toList = tableOf [(0, 22, 25, 19), (0, 22, 29, 21), (0, 22, 33, 23)] := th_table B rfl
  have hl := lv_entry ([.ref h0, .int p1, .long p2, .long p3, .int p4, .ref p5]) (n := 9) (Nat.le_of_ble_eq_true rfl)
  rw [lg_entry_eq]
  generalize (lg_sl ([.ref h0, .int p1, .long p2, .long p3, .int p4, .ref p5]) ++ List.replicate (9 - (lg_sl ([.ref h0, .int p1, .long p2, .long p3, .int p4, .ref p5])).length) Slot.unset).toArray = ls at hl ⊢
  have hl : lv_has ls 9 [(0, .ref h0), (1, .int p1), (2, .long p2), (4, .long p3), (6, .int p4), (7, .ref p5)] := hl
  refine lv_aload hx hb dL_term_0 (lv_at hl 5 rfl) ?_
  refine lv_iconst (v := 0) hx hb dL_term_2 (by decide) ?_
  refine lv_aload_n hx hb dL_term_3 rfl (lv_at hl 0 rfl) ?_
  refine lv_iload_n hx hb dL_term_4 rfl (lv_at hl 1 rfl) ?_
  refine lv_lload_n hx hb dL_term_5 rfl (lv_at hl 2 rfl) ?_
  refine lv_lload hx hb dL_term_6 (lv_at hl 3 rfl) ?_
  refine lv_iload hx hb dL_term_8 (lv_at hl 4 rfl) ?_
  refine th_catch (own := "ImageGcdsLaw") (x := ⟨0, 22, 25, 19⟩) htab rfl (by decide) rfl hown (hk _ k8) (th_runV (C := "ImageGcds") (As := [.int p1, .long p2, .long p3, .int p4]) (rest := [.int 0, .ref p5]) ⟨hx, hb, hml, hown, hk⟩ (cG_term l htr dC dI h0 le qp sa p1 p2 p3 p4) (cwV 4 hk (gV k9 k10 k11 k6 k12) rfl rfl rfl (by decide +kernel) ⟨Nat.le_of_ble_eq_true rfl, Nat.le_of_ble_eq_true rfl⟩) ⟨gU.bl, va_recv hU.2.1 hU.1 (ci := 0) (q0 := 0) rfl rfl, fun U hU2 hW => ⟨rfl, hU.go hW (fun q _ => by rw [hU2])⟩⟩ rfl rfl hl.1 rfl (lv_room (Nat.le_of_ble_eq_true rfl)) dL_term_10 ⟨Nat.le_of_ble_eq_true rfl, Nat.le_of_ble_eq_true rfl⟩) (fun a H1 hz ho => ?_)
  refine W.eq (g2 := F0 m 25 ls [.ref a]) rfl ?_
  have hS : va_S (fun q : Nat => s.heap.size ≤ q) s.heap H1 [] := ⟨hz, fun q h1 _ => ho q h1, fun _ h => nomatch h⟩
  refine lv_astore (lv' := [(8, .ref a), (0, .ref h0), (1, .int p1), (2, .long p2), (4, .long p3), (6, .int p4), (7, .ref p5)]) hx hb dL_term_25 hl (by decide) rfl (fun ls hl => ?_)
  refine lv_iconst (v := 1) hx hb dL_term_27 (by decide) ?_
  exact W.iret (v := 1) hx hb hr (fun t ht hW => ⟨⟨1, (), rfl, rfl, trivial⟩, hS.F ht⟩) hS.2.2 dL_term_28
set_option maxHeartbeats 4000000 in
set_option maxRecDepth 100000 in
theorem cL_add (l : Launch) (htr : l.stackTraces = false) (dC : Nat → ClassId) (dI : Nat → Nat → Nat) (h0 : Nat) (le : Int32) (qp sa : Nat) (sz : Nat) (p1 : Int32) (p2 : Int32) (p3 : Nat) : Met l yL_add wL_add ({ frames := 8, cells := 1, slots := 6, locals := 140 }) (va_Pc [.ref h0, .int p1, .int p2, .ref p3] (fun U => U.heap.size = sz ∧ gU dC dI h0 le qp sa U)) (va_Qi (fun (r : Int32) (_ : Unit) => r = 1) (fun _ _ => True) (fun q => sz ≤ q)) 1 6 (fun q => sz ≤ q) := by
  refine va_MetW (cc := bL_add) (maxL := 5) (ret := (some .int)) (by decide) rfl ?_
  intro p e s m args below meth c s₁ B hml hv
  obtain ⟨rfl, hsz, hU⟩ := hv
  have hx := B.exec
  have hb := B.bytes
  have hr := B.returns
  have hts := atoms_spec (ws := wL_add) B.pre
  have hk : ∀ w ∈ W0, w.before _ s = true := fun w h => hts w (List.mem_cons_of_mem _ h)
  have hown : s.vm.findClass "ImageGcdsLaw" = some m.cls := findClass_of_methodNamed B.named
  have hlocks := B.notSynchronized
  subst hsz
  have htab : c.exceptionTable.toList = tableOf [(0, 10, 13, 19), (0, 10, 17, 13)] := th_table B rfl
  have hl := lv_entry ([.ref h0, .int p1, .int p2, .ref p3]) (n := 5) (Nat.le_of_ble_eq_true rfl)
  rw [lg_entry_eq]
  generalize (lg_sl ([.ref h0, .int p1, .int p2, .ref p3]) ++ List.replicate (5 - (lg_sl ([.ref h0, .int p1, .int p2, .ref p3])).length) Slot.unset).toArray = ls at hl ⊢
  have hl : lv_has ls 5 [(0, .ref h0), (1, .int p1), (2, .int p2), (3, .ref p3)] := hl
  refine lv_aload_n hx hb dL_add_0 rfl (lv_at hl 3 rfl) ?_
  refine lv_iconst (v := 0) hx hb dL_add_1 (by decide) ?_
  refine lv_aload_n hx hb dL_add_2 rfl (lv_at hl 0 rfl) ?_
  refine lv_iload_n hx hb dL_add_3 rfl (lv_at hl 1 rfl) ?_
  refine lv_iload_n hx hb dL_add_4 rfl (lv_at hl 2 rfl) ?_
  refine th_catch (own := "ImageGcdsLaw") (x := ⟨0, 10, 13, 19⟩) htab rfl (by decide) rfl hown (hk _ k8) (th_runV (C := "ImageGcds") (As := [.int p1, .int p2]) (rest := [.int 0, .ref p3]) ⟨hx, hb, hml, hown, hk⟩ (cG_add l htr dC dI h0 le qp sa p1 p2) (cwV 2 hk (gV k13 k14 k15 k6 k16) rfl rfl rfl (by decide +kernel) ⟨Nat.le_of_ble_eq_true rfl, Nat.le_of_ble_eq_true rfl⟩) ⟨gU.bl, va_recv hU.2.1 hU.1 (ci := 0) (q0 := 0) rfl rfl, fun U hU2 hW => ⟨rfl, hU.go hW (fun q _ => by rw [hU2])⟩⟩ rfl rfl hl.1 rfl (lv_room (Nat.le_of_ble_eq_true rfl)) dL_add_5 ⟨Nat.le_of_ble_eq_true rfl, Nat.le_of_ble_eq_true rfl⟩) (fun a H1 hz ho => ?_)
  refine W.eq (g2 := F0 m 13 ls [.ref a]) rfl ?_
  have hS : va_S (fun q : Nat => s.heap.size ≤ q) s.heap H1 [] := ⟨hz, fun q h1 _ => ho q h1, fun _ h => nomatch h⟩
  refine lv_astore (lv' := [(4, .ref a), (0, .ref h0), (1, .int p1), (2, .int p2), (3, .ref p3)]) hx hb dL_add_13 hl (by decide) rfl (fun ls hl => ?_)
  refine lv_iconst (v := 1) hx hb dL_add_15 (by decide) ?_
  exact W.iret (v := 1) hx hb hr (fun t ht hW => ⟨⟨1, (), rfl, rfl, trivial⟩, hS.F ht⟩) hS.2.2 dL_add_16
set_option maxHeartbeats 4000000 in
set_option maxRecDepth 100000 in
theorem cL_times (l : Launch) (htr : l.stackTraces = false) (dC : Nat → ClassId) (dI : Nat → Nat → Nat) (h0 : Nat) (le : Int32) (qp sa : Nat) (sz : Nat) (p1 : Int32) (p2 : Int32) (p3 : Nat) : Met l yL_times wL_times ({ frames := 8, cells := 1, slots := 6, locals := 140 }) (va_Pc [.ref h0, .int p1, .int p2, .ref p3] (fun U => U.heap.size = sz ∧ gU dC dI h0 le qp sa U)) (va_Qi (fun (r : Int32) (_ : Unit) => r = 1) (fun _ _ => True) (fun q => sz ≤ q)) 1 6 (fun q => sz ≤ q) := by
  refine va_MetW (cc := bL_times) (maxL := 5) (ret := (some .int)) (by decide) rfl ?_
  intro p e s m args below meth c s₁ B hml hv
  obtain ⟨rfl, hsz, hU⟩ := hv
  have hx := B.exec
  have hb := B.bytes
  have hr := B.returns
  have hts := atoms_spec (ws := wL_times) B.pre
  have hk : ∀ w ∈ W0, w.before _ s = true := fun w h => hts w (List.mem_cons_of_mem _ h)
  have hown : s.vm.findClass "ImageGcdsLaw" = some m.cls := findClass_of_methodNamed B.named
  have hlocks := B.notSynchronized
  subst hsz
  have htab : c.exceptionTable.toList = tableOf [(0, 10, 13, 19), (0, 10, 17, 13), (0, 10, 21, 21)] := th_table B rfl
  have hl := lv_entry ([.ref h0, .int p1, .int p2, .ref p3]) (n := 5) (Nat.le_of_ble_eq_true rfl)
  rw [lg_entry_eq]
  generalize (lg_sl ([.ref h0, .int p1, .int p2, .ref p3]) ++ List.replicate (5 - (lg_sl ([.ref h0, .int p1, .int p2, .ref p3])).length) Slot.unset).toArray = ls at hl ⊢
  have hl : lv_has ls 5 [(0, .ref h0), (1, .int p1), (2, .int p2), (3, .ref p3)] := hl
  refine lv_aload_n hx hb dL_times_0 rfl (lv_at hl 3 rfl) ?_
  refine lv_iconst (v := 0) hx hb dL_times_1 (by decide) ?_
  refine lv_aload_n hx hb dL_times_2 rfl (lv_at hl 0 rfl) ?_
  refine lv_iload_n hx hb dL_times_3 rfl (lv_at hl 1 rfl) ?_
  refine lv_iload_n hx hb dL_times_4 rfl (lv_at hl 2 rfl) ?_
  refine th_catch (own := "ImageGcdsLaw") (x := ⟨0, 10, 13, 19⟩) htab rfl (by decide) rfl hown (hk _ k8) (th_runV (C := "ImageGcds") (As := [.int p1, .int p2]) (rest := [.int 0, .ref p3]) ⟨hx, hb, hml, hown, hk⟩ (cG_times l htr dC dI h0 le qp sa p1 p2) (cwV 2 hk (gV k17 k18 k19 k6 k20) rfl rfl rfl (by decide +kernel) ⟨Nat.le_of_ble_eq_true rfl, Nat.le_of_ble_eq_true rfl⟩) ⟨gU.bl, va_recv hU.2.1 hU.1 (ci := 0) (q0 := 0) rfl rfl, fun U hU2 hW => ⟨rfl, hU.go hW (fun q _ => by rw [hU2])⟩⟩ rfl rfl hl.1 rfl (lv_room (Nat.le_of_ble_eq_true rfl)) dL_times_5 ⟨Nat.le_of_ble_eq_true rfl, Nat.le_of_ble_eq_true rfl⟩) (fun a H1 hz ho => ?_)
  refine W.eq (g2 := F0 m 13 ls [.ref a]) rfl ?_
  have hS : va_S (fun q : Nat => s.heap.size ≤ q) s.heap H1 [] := ⟨hz, fun q h1 _ => ho q h1, fun _ h => nomatch h⟩
  refine lv_astore (lv' := [(4, .ref a), (0, .ref h0), (1, .int p1), (2, .int p2), (3, .ref p3)]) hx hb dL_times_13 hl (by decide) rfl (fun ls hl => ?_)
  refine lv_iconst (v := 1) hx hb dL_times_15 (by decide) ?_
  exact W.iret (v := 1) hx hb hr (fun t ht hW => ⟨⟨1, (), rfl, rfl, trivial⟩, hS.F ht⟩) hS.2.2 dL_times_16
set_option maxHeartbeats 4000000 in
set_option maxRecDepth 100000 in
theorem cL_over (l : Launch) (htr : l.stackTraces = false) (dC : Nat → ClassId) (dI : Nat → Nat → Nat) (h0 : Nat) (le : Int32) (qp sa : Nat) (sz : Nat) (p1 : Int32) (p2 : Int32) (p3 : Nat) : Met l yL_over wL_over ({ frames := 8, cells := 1, slots := 6, locals := 140 }) (va_Pc [.ref h0, .int p1, .int p2, .ref p3] (fun U => U.heap.size = sz ∧ gU dC dI h0 le qp sa U)) (va_Qi (fun (r : Int32) (_ : Unit) => r = 1) (fun _ _ => True) (fun q => sz ≤ q)) 1 6 (fun q => sz ≤ q) := by
  refine va_MetW (cc := bL_over) (maxL := 5) (ret := (some .int)) (by decide) rfl ?_
  intro p e s m args below meth c s₁ B hml hv
  obtain ⟨rfl, hsz, hU⟩ := hv
  have hx := B.exec
  have hb := B.bytes
  have hr := B.returns
  have hts := atoms_spec (ws := wL_over) B.pre
  have hk : ∀ w ∈ W0, w.before _ s = true := fun w h => hts w (List.mem_cons_of_mem _ h)
  have hown : s.vm.findClass "ImageGcdsLaw" = some m.cls := findClass_of_methodNamed B.named
  have hlocks := B.notSynchronized
  subst hsz
  have htab : c.exceptionTable.toList = tableOf [(0, 10, 13, 19), (0, 10, 17, 13)] := th_table B rfl
  have hl := lv_entry ([.ref h0, .int p1, .int p2, .ref p3]) (n := 5) (Nat.le_of_ble_eq_true rfl)
  rw [lg_entry_eq]
  generalize (lg_sl ([.ref h0, .int p1, .int p2, .ref p3]) ++ List.replicate (5 - (lg_sl ([.ref h0, .int p1, .int p2, .ref p3])).length) Slot.unset).toArray = ls at hl ⊢
  have hl : lv_has ls 5 [(0, .ref h0), (1, .int p1), (2, .int p2), (3, .ref p3)] := hl
  refine lv_aload_n hx hb dL_over_0 rfl (lv_at hl 3 rfl) ?_
  refine lv_iconst (v := 0) hx hb dL_over_1 (by decide) ?_
  refine lv_aload_n hx hb dL_over_2 rfl (lv_at hl 0 rfl) ?_
  refine lv_iload_n hx hb dL_over_3 rfl (lv_at hl 1 rfl) ?_
  refine lv_iload_n hx hb dL_over_4 rfl (lv_at hl 2 rfl) ?_
  refine th_catch (own := "ImageGcdsLaw") (x := ⟨0, 10, 13, 19⟩) htab rfl (by decide) rfl hown (hk _ k8) (th_runV (C := "ImageGcds") (As := [.int p1, .int p2]) (rest := [.int 0, .ref p3]) ⟨hx, hb, hml, hown, hk⟩ (cG_over l htr dC dI h0 le qp sa p1 p2) (cwV 2 hk (gV k21 k22 k23 k6 k24) rfl rfl rfl (by decide +kernel) ⟨Nat.le_of_ble_eq_true rfl, Nat.le_of_ble_eq_true rfl⟩) ⟨gU.bl, va_recv hU.2.1 hU.1 (ci := 0) (q0 := 0) rfl rfl, fun U hU2 hW => ⟨rfl, hU.go hW (fun q _ => by rw [hU2])⟩⟩ rfl rfl hl.1 rfl (lv_room (Nat.le_of_ble_eq_true rfl)) dL_over_5 ⟨Nat.le_of_ble_eq_true rfl, Nat.le_of_ble_eq_true rfl⟩) (fun a H1 hz ho => ?_)
  refine W.eq (g2 := F0 m 13 ls [.ref a]) rfl ?_
  have hS : va_S (fun q : Nat => s.heap.size ≤ q) s.heap H1 [] := ⟨hz, fun q h1 _ => ho q h1, fun _ h => nomatch h⟩
  refine lv_astore (lv' := [(4, .ref a), (0, .ref h0), (1, .int p1), (2, .int p2), (3, .ref p3)]) hx hb dL_over_13 hl (by decide) rfl (fun ls hl => ?_)
  refine lv_iconst (v := 1) hx hb dL_over_15 (by decide) ?_
  exact W.iret (v := 1) hx hb hr (fun t ht hW => ⟨⟨1, (), rfl, rfl, trivial⟩, hS.F ht⟩) hS.2.2 dL_over_16
set_option maxHeartbeats 4000000 in
set_option maxRecDepth 100000 in
theorem cL_gcd (l : Launch) (htr : l.stackTraces = false) (dC : Nat → ClassId) (dI : Nat → Nat → Nat) (h0 : Nat) (le : Int32) (qp sa : Nat) (sz : Nat) (p1 : Int32) (p2 : Int32) (p3 : Nat) : Met l yL_gcd wL_gcd ({ frames := 8, cells := 1, slots := 6, locals := 140 }) (va_Pc [.ref h0, .int p1, .int p2, .ref p3] (fun U => U.heap.size = sz ∧ gU dC dI h0 le qp sa U)) (va_Qi (fun (r : Int32) (_ : Unit) => r = 1) (fun _ _ => True) (fun q => sz ≤ q)) 1 6 (fun q => sz ≤ q) := by
  refine va_MetW (cc := bL_gcd) (maxL := 5) (ret := (some .int)) (by decide) rfl ?_
  intro p e s m args below meth c s₁ B hml hv
  obtain ⟨rfl, hsz, hU⟩ := hv
  have hx := B.exec
  have hb := B.bytes
  have hr := B.returns
  have hts := atoms_spec (ws := wL_gcd) B.pre
  have hk : ∀ w ∈ W0, w.before _ s = true := fun w h => hts w (List.mem_cons_of_mem _ h)
  have hown : s.vm.findClass "ImageGcdsLaw" = some m.cls := findClass_of_methodNamed B.named
  have hlocks := B.notSynchronized
  subst hsz
  have htab : c.exceptionTable.toList = tableOf [(0, 10, 13, 19), (0, 10, 17, 13)] := th_table B rfl
  have hl := lv_entry ([.ref h0, .int p1, .int p2, .ref p3]) (n := 5) (Nat.le_of_ble_eq_true rfl)
  rw [lg_entry_eq]
  generalize (lg_sl ([.ref h0, .int p1, .int p2, .ref p3]) ++ List.replicate (5 - (lg_sl ([.ref h0, .int p1, .int p2, .ref p3])).length) Slot.unset).toArray = ls at hl ⊢
  have hl : lv_has ls 5 [(0, .ref h0), (1, .int p1), (2, .int p2), (3, .ref p3)] := hl
  refine lv_aload_n hx hb dL_gcd_0 rfl (lv_at hl 3 rfl) ?_
  refine lv_iconst (v := 0) hx hb dL_gcd_1 (by decide) ?_
  refine lv_aload_n hx hb dL_gcd_2 rfl (lv_at hl 0 rfl) ?_
  refine lv_iload_n hx hb dL_gcd_3 rfl (lv_at hl 1 rfl) ?_
  refine lv_iload_n hx hb dL_gcd_4 rfl (lv_at hl 2 rfl) ?_
  refine th_catch (own := "ImageGcdsLaw") (x := ⟨0, 10, 13, 19⟩) htab rfl (by decide) rfl hown (hk _ k8) (th_runV (C := "ImageGcds") (As := [.int p1, .int p2]) (rest := [.int 0, .ref p3]) ⟨hx, hb, hml, hown, hk⟩ (cG_gcd l htr dC dI h0 le qp sa p1 p2) (cwV 2 hk (gV k25 k26 k27 k6 k28) rfl rfl rfl (by decide +kernel) ⟨Nat.le_of_ble_eq_true rfl, Nat.le_of_ble_eq_true rfl⟩) ⟨gU.bl, va_recv hU.2.1 hU.1 (ci := 0) (q0 := 0) rfl rfl, fun U hU2 hW => ⟨rfl, hU.go hW (fun q _ => by rw [hU2])⟩⟩ rfl rfl hl.1 rfl (lv_room (Nat.le_of_ble_eq_true rfl)) dL_gcd_5 ⟨Nat.le_of_ble_eq_true rfl, Nat.le_of_ble_eq_true rfl⟩) (fun a H1 hz ho => ?_)
  refine W.eq (g2 := F0 m 13 ls [.ref a]) rfl ?_
  have hS : va_S (fun q : Nat => s.heap.size ≤ q) s.heap H1 [] := ⟨hz, fun q h1 _ => ho q h1, fun _ h => nomatch h⟩
  refine lv_astore (lv' := [(4, .ref a), (0, .ref h0), (1, .int p1), (2, .int p2), (3, .ref p3)]) hx hb dL_gcd_13 hl (by decide) rfl (fun ls hl => ?_)
  refine lv_iconst (v := 1) hx hb dL_gcd_15 (by decide) ?_
  exact W.iret (v := 1) hx hb hr (fun t ht hW => ⟨⟨1, (), rfl, rfl, trivial⟩, hS.F ht⟩) hS.2.2 dL_gcd_16
set_option maxHeartbeats 4000000 in
set_option maxRecDepth 100000 in
theorem cL_resultant (l : Launch) (htr : l.stackTraces = false) (dC : Nat → ClassId) (dI : Nat → Nat → Nat) (h0 : Nat) (le : Int32) (qp sa : Nat) (sz : Nat) (p1 : Int32) (p2 : Int32) (p3 : Int32) (p4 : Nat) : Met l yL_resultant wL_resultant ({ frames := 8, cells := 1, slots := 6, locals := 140 }) (va_Pc [.ref h0, .int p1, .int p2, .int p3, .ref p4] (fun U => U.heap.size = sz ∧ gU dC dI h0 le qp sa U)) (va_Qi (fun (r : Int32) (_ : Unit) => r = 1) (fun _ _ => True) (fun q => sz ≤ q)) 1 6 (fun q => sz ≤ q) := by
  refine va_MetW (cc := bL_resultant) (maxL := 6) (ret := (some .int)) (by decide) rfl ?_
  intro p e s m args below meth c s₁ B hml hv
  obtain ⟨rfl, hsz, hU⟩ := hv
  have hx := B.exec
  have hb := B.bytes
  have hr := B.returns
  have hts := atoms_spec (ws := wL_resultant) B.pre
  have hk : ∀ w ∈ W0, w.before _ s = true := fun w h => hts w (List.mem_cons_of_mem _ h)
  have hown : s.vm.findClass "ImageGcdsLaw" = some m.cls := findClass_of_methodNamed B.named
  have hlocks := B.notSynchronized
  subst hsz
  have htab : c.exceptionTable.toList = tableOf [(0, 12, 15, 19), (0, 12, 19, 13), (0, 12, 23, 21)] := th_table B rfl
  have hl := lv_entry ([.ref h0, .int p1, .int p2, .int p3, .ref p4]) (n := 6) (Nat.le_of_ble_eq_true rfl)
  rw [lg_entry_eq]
  generalize (lg_sl ([.ref h0, .int p1, .int p2, .int p3, .ref p4]) ++ List.replicate (6 - (lg_sl ([.ref h0, .int p1, .int p2, .int p3, .ref p4])).length) Slot.unset).toArray = ls at hl ⊢
  have hl : lv_has ls 6 [(0, .ref h0), (1, .int p1), (2, .int p2), (3, .int p3), (4, .ref p4)] := hl
  refine lv_aload hx hb dL_resultant_0 (lv_at hl 4 rfl) ?_
  refine lv_iconst (v := 0) hx hb dL_resultant_2 (by decide) ?_
  refine lv_aload_n hx hb dL_resultant_3 rfl (lv_at hl 0 rfl) ?_
  refine lv_iload_n hx hb dL_resultant_4 rfl (lv_at hl 1 rfl) ?_
  refine lv_iload_n hx hb dL_resultant_5 rfl (lv_at hl 2 rfl) ?_
  refine lv_iload_n hx hb dL_resultant_6 rfl (lv_at hl 3 rfl) ?_
  refine th_catch (own := "ImageGcdsLaw") (x := ⟨0, 12, 15, 19⟩) htab rfl (by decide) rfl hown (hk _ k8) (th_runV (C := "ImageGcds") (As := [.int p1, .int p2, .int p3]) (rest := [.int 0, .ref p4]) ⟨hx, hb, hml, hown, hk⟩ (cG_resultant l htr dC dI h0 le qp sa p1 p2 p3) (cwV 3 hk (gV k29 k30 k31 k6 k32) rfl rfl rfl (by decide +kernel) ⟨Nat.le_of_ble_eq_true rfl, Nat.le_of_ble_eq_true rfl⟩) ⟨gU.bl, va_recv hU.2.1 hU.1 (ci := 0) (q0 := 0) rfl rfl, fun U hU2 hW => ⟨rfl, hU.go hW (fun q _ => by rw [hU2])⟩⟩ rfl rfl hl.1 rfl (lv_room (Nat.le_of_ble_eq_true rfl)) dL_resultant_7 ⟨Nat.le_of_ble_eq_true rfl, Nat.le_of_ble_eq_true rfl⟩) (fun a H1 hz ho => ?_)
  refine W.eq (g2 := F0 m 15 ls [.ref a]) rfl ?_
  have hS : va_S (fun q : Nat => s.heap.size ≤ q) s.heap H1 [] := ⟨hz, fun q h1 _ => ho q h1, fun _ h => nomatch h⟩
  refine lv_astore (lv' := [(5, .ref a), (0, .ref h0), (1, .int p1), (2, .int p2), (3, .int p3), (4, .ref p4)]) hx hb dL_resultant_15 hl (by decide) rfl (fun ls hl => ?_)
  refine lv_iconst (v := 1) hx hb dL_resultant_17 (by decide) ?_
  exact W.iret (v := 1) hx hb hr (fun t ht hW => ⟨⟨1, (), rfl, rfl, trivial⟩, hS.F ht⟩) hS.2.2 dL_resultant_18
set_option maxHeartbeats 4000000 in
set_option maxRecDepth 100000 in
theorem cL_slope (l : Launch) (htr : l.stackTraces = false) (dC : Nat → ClassId) (dI : Nat → Nat → Nat) (h0 : Nat) (le : Int32) (qp sa : Nat) (sz : Nat) (p1 : Int32) (p2 : Int32) (p3 : Nat) : Met l yL_slope wL_slope ({ frames := 8, cells := 1, slots := 6, locals := 140 }) (va_Pc [.ref h0, .int p1, .int p2, .ref p3] (fun U => U.heap.size = sz ∧ gU dC dI h0 le qp sa U)) (va_Qi (fun (r : Int32) (_ : Unit) => r = 1) (fun _ _ => True) (fun q => sz ≤ q)) 1 6 (fun q => sz ≤ q) := by
  refine va_MetW (cc := bL_slope) (maxL := 5) (ret := (some .int)) (by decide) rfl ?_
  intro p e s m args below meth c s₁ B hml hv
  obtain ⟨rfl, hsz, hU⟩ := hv
  have hx := B.exec
  have hb := B.bytes
  have hr := B.returns
  have hts := atoms_spec (ws := wL_slope) B.pre
  have hk : ∀ w ∈ W0, w.before _ s = true := fun w h => hts w (List.mem_cons_of_mem _ h)
  have hown : s.vm.findClass "ImageGcdsLaw" = some m.cls := findClass_of_methodNamed B.named
  have hlocks := B.notSynchronized
  subst hsz
  have htab : c.exceptionTable.toList = tableOf [(0, 10, 13, 19), (0, 10, 17, 13), (0, 10, 21, 21)] := th_table B rfl
  have hl := lv_entry ([.ref h0, .int p1, .int p2, .ref p3]) (n := 5) (Nat.le_of_ble_eq_true rfl)
  rw [lg_entry_eq]
  generalize (lg_sl ([.ref h0, .int p1, .int p2, .ref p3]) ++ List.replicate (5 - (lg_sl ([.ref h0, .int p1, .int p2, .ref p3])).length) Slot.unset).toArray = ls at hl ⊢
  have hl : lv_has ls 5 [(0, .ref h0), (1, .int p1), (2, .int p2), (3, .ref p3)] := hl
  refine lv_aload_n hx hb dL_slope_0 rfl (lv_at hl 3 rfl) ?_
  refine lv_iconst (v := 0) hx hb dL_slope_1 (by decide) ?_
  refine lv_aload_n hx hb dL_slope_2 rfl (lv_at hl 0 rfl) ?_
  refine lv_iload_n hx hb dL_slope_3 rfl (lv_at hl 1 rfl) ?_
  refine lv_iload_n hx hb dL_slope_4 rfl (lv_at hl 2 rfl) ?_
  refine th_catch (own := "ImageGcdsLaw") (x := ⟨0, 10, 13, 19⟩) htab rfl (by decide) rfl hown (hk _ k8) (th_runV (C := "ImageGcds") (As := [.int p1, .int p2]) (rest := [.int 0, .ref p3]) ⟨hx, hb, hml, hown, hk⟩ (cG_slope l htr dC dI h0 le qp sa p1 p2) (cwV 2 hk (gV k33 k34 k35 k6 k36) rfl rfl rfl (by decide +kernel) ⟨Nat.le_of_ble_eq_true rfl, Nat.le_of_ble_eq_true rfl⟩) ⟨gU.bl, va_recv hU.2.1 hU.1 (ci := 0) (q0 := 0) rfl rfl, fun U hU2 hW => ⟨rfl, hU.go hW (fun q _ => by rw [hU2])⟩⟩ rfl rfl hl.1 rfl (lv_room (Nat.le_of_ble_eq_true rfl)) dL_slope_5 ⟨Nat.le_of_ble_eq_true rfl, Nat.le_of_ble_eq_true rfl⟩) (fun a H1 hz ho => ?_)
  refine W.eq (g2 := F0 m 13 ls [.ref a]) rfl ?_
  have hS : va_S (fun q : Nat => s.heap.size ≤ q) s.heap H1 [] := ⟨hz, fun q h1 _ => ho q h1, fun _ h => nomatch h⟩
  refine lv_astore (lv' := [(4, .ref a), (0, .ref h0), (1, .int p1), (2, .int p2), (3, .ref p3)]) hx hb dL_slope_13 hl (by decide) rfl (fun ls hl => ?_)
  refine lv_iconst (v := 1) hx hb dL_slope_15 (by decide) ?_
  exact W.iret (v := 1) hx hb hr (fun t ht hW => ⟨⟨1, (), rfl, rfl, trivial⟩, hS.F ht⟩) hS.2.2 dL_slope_16
set_option maxHeartbeats 4000000 in
set_option maxRecDepth 100000 in
theorem cL_content (l : Launch) (htr : l.stackTraces = false) (dC : Nat → ClassId) (dI : Nat → Nat → Nat) (h0 : Nat) (le : Int32) (qp sa : Nat) (sz : Nat) (p1 : Int32) (p2 : Int32) (p3 : Nat) : Met l yL_content wL_content ({ frames := 8, cells := 1, slots := 6, locals := 140 }) (va_Pc [.ref h0, .int p1, .int p2, .ref p3] (fun U => U.heap.size = sz ∧ gU dC dI h0 le qp sa U)) (va_Qi (fun (r : Int32) (_ : Unit) => r = 1) (fun _ _ => True) (fun q => sz ≤ q)) 1 6 (fun q => sz ≤ q) := by
  refine va_MetW (cc := bL_content) (maxL := 5) (ret := (some .int)) (by decide) rfl ?_
  intro p e s m args below meth c s₁ B hml hv
  obtain ⟨rfl, hsz, hU⟩ := hv
  have hx := B.exec
  have hb := B.bytes
  have hr := B.returns
  have hts := atoms_spec (ws := wL_content) B.pre
  have hk : ∀ w ∈ W0, w.before _ s = true := fun w h => hts w (List.mem_cons_of_mem _ h)
  have hown : s.vm.findClass "ImageGcdsLaw" = some m.cls := findClass_of_methodNamed B.named
  have hlocks := B.notSynchronized
  subst hsz
  have htab : c.exceptionTable.toList = tableOf [(0, 10, 13, 19), (0, 10, 17, 13), (0, 10, 21, 21)] := th_table B rfl
  have hl := lv_entry ([.ref h0, .int p1, .int p2, .ref p3]) (n := 5) (Nat.le_of_ble_eq_true rfl)
  rw [lg_entry_eq]
  generalize (lg_sl ([.ref h0, .int p1, .int p2, .ref p3]) ++ List.replicate (5 - (lg_sl ([.ref h0, .int p1, .int p2, .ref p3])).length) Slot.unset).toArray = ls at hl ⊢
  have hl : lv_has ls 5 [(0, .ref h0), (1, .int p1), (2, .int p2), (3, .ref p3)] := hl
  refine lv_aload_n hx hb dL_content_0 rfl (lv_at hl 3 rfl) ?_
  refine lv_iconst (v := 0) hx hb dL_content_1 (by decide) ?_
  refine lv_aload_n hx hb dL_content_2 rfl (lv_at hl 0 rfl) ?_
  refine lv_iload_n hx hb dL_content_3 rfl (lv_at hl 1 rfl) ?_
  refine lv_iload_n hx hb dL_content_4 rfl (lv_at hl 2 rfl) ?_
  refine th_catch (own := "ImageGcdsLaw") (x := ⟨0, 10, 13, 19⟩) htab rfl (by decide) rfl hown (hk _ k8) (th_runV (C := "ImageGcds") (As := [.int p1, .int p2]) (rest := [.int 0, .ref p3]) ⟨hx, hb, hml, hown, hk⟩ (cG_content l htr dC dI h0 le qp sa p1 p2) (cwV 2 hk (gV k37 k38 k39 k6 k40) rfl rfl rfl (by decide +kernel) ⟨Nat.le_of_ble_eq_true rfl, Nat.le_of_ble_eq_true rfl⟩) ⟨gU.bl, va_recv hU.2.1 hU.1 (ci := 0) (q0 := 0) rfl rfl, fun U hU2 hW => ⟨rfl, hU.go hW (fun q _ => by rw [hU2])⟩⟩ rfl rfl hl.1 rfl (lv_room (Nat.le_of_ble_eq_true rfl)) dL_content_5 ⟨Nat.le_of_ble_eq_true rfl, Nat.le_of_ble_eq_true rfl⟩) (fun a H1 hz ho => ?_)
  refine W.eq (g2 := F0 m 13 ls [.ref a]) rfl ?_
  have hS : va_S (fun q : Nat => s.heap.size ≤ q) s.heap H1 [] := ⟨hz, fun q h1 _ => ho q h1, fun _ h => nomatch h⟩
  refine lv_astore (lv' := [(4, .ref a), (0, .ref h0), (1, .int p1), (2, .int p2), (3, .ref p3)]) hx hb dL_content_13 hl (by decide) rfl (fun ls hl => ?_)
  refine lv_iconst (v := 1) hx hb dL_content_15 (by decide) ?_
  exact W.iret (v := 1) hx hb hr (fun t ht hW => ⟨⟨1, (), rfl, rfl, trivial⟩, hS.F ht⟩) hS.2.2 dL_content_16
set_option maxHeartbeats 4000000 in
set_option maxRecDepth 100000 in
theorem cL_part (l : Launch) (htr : l.stackTraces = false) (dC : Nat → ClassId) (dI : Nat → Nat → Nat) (h0 : Nat) (le : Int32) (qp sa : Nat) (sz : Nat) (p1 : Int32) (p2 : Int32) (p3 : Nat) : Met l yL_part wL_part ({ frames := 8, cells := 1, slots := 6, locals := 140 }) (va_Pc [.ref h0, .int p1, .int p2, .ref p3] (fun U => U.heap.size = sz ∧ gU dC dI h0 le qp sa U)) (va_Qi (fun (r : Int32) (_ : Unit) => r = 1) (fun _ _ => True) (fun q => sz ≤ q)) 1 6 (fun q => sz ≤ q) := by
  refine va_MetW (cc := bL_part) (maxL := 5) (ret := (some .int)) (by decide) rfl ?_
  intro p e s m args below meth c s₁ B hml hv
  obtain ⟨rfl, hsz, hU⟩ := hv
  have hx := B.exec
  have hb := B.bytes
  have hr := B.returns
  have hts := atoms_spec (ws := wL_part) B.pre
  have hk : ∀ w ∈ W0, w.before _ s = true := fun w h => hts w (List.mem_cons_of_mem _ h)
  have hown : s.vm.findClass "ImageGcdsLaw" = some m.cls := findClass_of_methodNamed B.named
  have hlocks := B.notSynchronized
  subst hsz
  have htab : c.exceptionTable.toList = tableOf [(0, 10, 13, 19), (0, 10, 17, 13), (0, 10, 21, 21)] := th_table B rfl
  have hl := lv_entry ([.ref h0, .int p1, .int p2, .ref p3]) (n := 5) (Nat.le_of_ble_eq_true rfl)
  rw [lg_entry_eq]
  generalize (lg_sl ([.ref h0, .int p1, .int p2, .ref p3]) ++ List.replicate (5 - (lg_sl ([.ref h0, .int p1, .int p2, .ref p3])).length) Slot.unset).toArray = ls at hl ⊢
  have hl : lv_has ls 5 [(0, .ref h0), (1, .int p1), (2, .int p2), (3, .ref p3)] := hl
  refine lv_aload_n hx hb dL_part_0 rfl (lv_at hl 3 rfl) ?_
  refine lv_iconst (v := 0) hx hb dL_part_1 (by decide) ?_
  refine lv_aload_n hx hb dL_part_2 rfl (lv_at hl 0 rfl) ?_
  refine lv_iload_n hx hb dL_part_3 rfl (lv_at hl 1 rfl) ?_
  refine lv_iload_n hx hb dL_part_4 rfl (lv_at hl 2 rfl) ?_
  refine th_catch (own := "ImageGcdsLaw") (x := ⟨0, 10, 13, 19⟩) htab rfl (by decide) rfl hown (hk _ k8) (th_runV (C := "ImageGcds") (As := [.int p1, .int p2]) (rest := [.int 0, .ref p3]) ⟨hx, hb, hml, hown, hk⟩ (cG_part l htr dC dI h0 le qp sa p1 p2) (cwV 2 hk (gV k41 k42 k43 k6 k44) rfl rfl rfl (by decide +kernel) ⟨Nat.le_of_ble_eq_true rfl, Nat.le_of_ble_eq_true rfl⟩) ⟨gU.bl, va_recv hU.2.1 hU.1 (ci := 0) (q0 := 0) rfl rfl, fun U hU2 hW => ⟨rfl, hU.go hW (fun q _ => by rw [hU2])⟩⟩ rfl rfl hl.1 rfl (lv_room (Nat.le_of_ble_eq_true rfl)) dL_part_5 ⟨Nat.le_of_ble_eq_true rfl, Nat.le_of_ble_eq_true rfl⟩) (fun a H1 hz ho => ?_)
  refine W.eq (g2 := F0 m 13 ls [.ref a]) rfl ?_
  have hS : va_S (fun q : Nat => s.heap.size ≤ q) s.heap H1 [] := ⟨hz, fun q h1 _ => ho q h1, fun _ h => nomatch h⟩
  refine lv_astore (lv' := [(4, .ref a), (0, .ref h0), (1, .int p1), (2, .int p2), (3, .ref p3)]) hx hb dL_part_13 hl (by decide) rfl (fun ls hl => ?_)
  refine lv_iconst (v := 1) hx hb dL_part_15 (by decide) ?_
  exact W.iret (v := 1) hx hb hr (fun t ht hW => ⟨⟨1, (), rfl, rfl, trivial⟩, hS.F ht⟩) hS.2.2 dL_part_16
set_option maxHeartbeats 4000000 in
set_option maxRecDepth 100000 in
theorem cL_image (l : Launch) (htr : l.stackTraces = false) (dC : Nat → ClassId) (dI : Nat → Nat → Nat) (h0 : Nat) (le : Int32) (qp sa : Nat) (sz : Nat) (p1 : Int32) (p2 : Int32) (p3 : Int32) (p4 : Nat) : Met l yL_image wL_image ({ frames := 8, cells := 1, slots := 6, locals := 140 }) (va_Pc [.ref h0, .int p1, .int p2, .int p3, .ref p4] (fun U => U.heap.size = sz ∧ gU dC dI h0 le qp sa U)) (va_Qi (fun (r : Int32) (_ : Unit) => r = 1) (fun _ _ => True) (fun q => sz ≤ q)) 1 6 (fun q => sz ≤ q) := by
  refine va_MetW (cc := bL_image) (maxL := 6) (ret := (some .int)) (by decide) rfl ?_
  intro p e s m args below meth c s₁ B hml hv
  obtain ⟨rfl, hsz, hU⟩ := hv
  have hx := B.exec
  have hb := B.bytes
  have hr := B.returns
  have hts := atoms_spec (ws := wL_image) B.pre
  have hk : ∀ w ∈ W0, w.before _ s = true := fun w h => hts w (List.mem_cons_of_mem _ h)
  have hown : s.vm.findClass "ImageGcdsLaw" = some m.cls := findClass_of_methodNamed B.named
  have hlocks := B.notSynchronized
  subst hsz
  have htab : c.exceptionTable.toList = tableOf [(0, 12, 15, 19), (0, 12, 19, 13), (0, 12, 23, 21)] := th_table B rfl
  have hl := lv_entry ([.ref h0, .int p1, .int p2, .int p3, .ref p4]) (n := 6) (Nat.le_of_ble_eq_true rfl)
  rw [lg_entry_eq]
  generalize (lg_sl ([.ref h0, .int p1, .int p2, .int p3, .ref p4]) ++ List.replicate (6 - (lg_sl ([.ref h0, .int p1, .int p2, .int p3, .ref p4])).length) Slot.unset).toArray = ls at hl ⊢
  have hl : lv_has ls 6 [(0, .ref h0), (1, .int p1), (2, .int p2), (3, .int p3), (4, .ref p4)] := hl
  refine lv_aload hx hb dL_image_0 (lv_at hl 4 rfl) ?_
  refine lv_iconst (v := 0) hx hb dL_image_2 (by decide) ?_
  refine lv_aload_n hx hb dL_image_3 rfl (lv_at hl 0 rfl) ?_
  refine lv_iload_n hx hb dL_image_4 rfl (lv_at hl 1 rfl) ?_
  refine lv_iload_n hx hb dL_image_5 rfl (lv_at hl 2 rfl) ?_
  refine lv_iload_n hx hb dL_image_6 rfl (lv_at hl 3 rfl) ?_
  refine th_catch (own := "ImageGcdsLaw") (x := ⟨0, 12, 15, 19⟩) htab rfl (by decide) rfl hown (hk _ k8) (th_runV (C := "ImageGcds") (As := [.int p1, .int p2, .int p3]) (rest := [.int 0, .ref p4]) ⟨hx, hb, hml, hown, hk⟩ (cG_image l htr dC dI h0 le qp sa p1 p2 p3) (cwV 3 hk (gV k45 k46 k47 k6 k48) rfl rfl rfl (by decide +kernel) ⟨Nat.le_of_ble_eq_true rfl, Nat.le_of_ble_eq_true rfl⟩) ⟨gU.bl, va_recv hU.2.1 hU.1 (ci := 0) (q0 := 0) rfl rfl, fun U hU2 hW => ⟨rfl, hU.go hW (fun q _ => by rw [hU2])⟩⟩ rfl rfl hl.1 rfl (lv_room (Nat.le_of_ble_eq_true rfl)) dL_image_7 ⟨Nat.le_of_ble_eq_true rfl, Nat.le_of_ble_eq_true rfl⟩) (fun a H1 hz ho => ?_)
  refine W.eq (g2 := F0 m 15 ls [.ref a]) rfl ?_
  have hS : va_S (fun q : Nat => s.heap.size ≤ q) s.heap H1 [] := ⟨hz, fun q h1 _ => ho q h1, fun _ h => nomatch h⟩
  refine lv_astore (lv' := [(5, .ref a), (0, .ref h0), (1, .int p1), (2, .int p2), (3, .int p3), (4, .ref p4)]) hx hb dL_image_15 hl (by decide) rfl (fun ls hl => ?_)
  refine lv_iconst (v := 1) hx hb dL_image_17 (by decide) ?_
  exact W.iret (v := 1) hx hb hr (fun t ht hW => ⟨⟨1, (), rfl, rfl, trivial⟩, hS.F ht⟩) hS.2.2 dL_image_18
set_option maxHeartbeats 4000000 in
set_option maxRecDepth 100000 in
theorem cL_equal (l : Launch) (htr : l.stackTraces = false) (dC : Nat → ClassId) (dI : Nat → Nat → Nat) (h0 : Nat) (le : Int32) (qp sa : Nat) (sz : Nat) (p1 : Int32) (p2 : Int32) (p3 : Nat) : Met l yL_equal wL_equal ({ frames := 8, cells := 1, slots := 6, locals := 140 }) (va_Pc [.ref h0, .int p1, .int p2, .ref p3] (fun U => U.heap.size = sz ∧ gU dC dI h0 le qp sa U)) (va_Qi (fun (r : Int32) (_ : Unit) => r = 1) (fun _ _ => True) (fun q => sz ≤ q)) 1 6 (fun q => sz ≤ q) := by
  refine va_MetW (cc := bL_equal) (maxL := 5) (ret := (some .int)) (by decide) rfl ?_
  intro p e s m args below meth c s₁ B hml hv
  obtain ⟨rfl, hsz, hU⟩ := hv
  have hx := B.exec
  have hb := B.bytes
  have hr := B.returns
  have hts := atoms_spec (ws := wL_equal) B.pre
  have hk : ∀ w ∈ W0, w.before _ s = true := fun w h => hts w (List.mem_cons_of_mem _ h)
  have hown : s.vm.findClass "ImageGcdsLaw" = some m.cls := findClass_of_methodNamed B.named
  have hlocks := B.notSynchronized
  subst hsz
  have htab : c.exceptionTable.toList = tableOf [(0, 17, 20, 19)] := th_table B rfl
  have hl := lv_entry ([.ref h0, .int p1, .int p2, .ref p3]) (n := 5) (Nat.le_of_ble_eq_true rfl)
  rw [lg_entry_eq]
  generalize (lg_sl ([.ref h0, .int p1, .int p2, .ref p3]) ++ List.replicate (5 - (lg_sl ([.ref h0, .int p1, .int p2, .ref p3])).length) Slot.unset).toArray = ls at hl ⊢
  have hl : lv_has ls 5 [(0, .ref h0), (1, .int p1), (2, .int p2), (3, .ref p3)] := hl
  refine lv_aload_n hx hb dL_equal_0 rfl (lv_at hl 3 rfl) ?_
  refine lv_iconst (v := 0) hx hb dL_equal_1 (by decide) ?_
  refine lv_aload_n hx hb dL_equal_2 rfl (lv_at hl 0 rfl) ?_
  refine lv_iload_n hx hb dL_equal_3 rfl (lv_at hl 1 rfl) ?_
  refine lv_iload_n hx hb dL_equal_4 rfl (lv_at hl 2 rfl) ?_
  refine th_catch (own := "ImageGcdsLaw") (x := ⟨0, 17, 20, 19⟩) htab rfl (by decide) rfl hown (hk _ k8) (th_runV (C := "ImageGcds") (As := [.int p1, .int p2]) (rest := [.int 0, .ref p3]) ⟨hx, hb, hml, hown, hk⟩ (cG_equal l htr dC dI h0 le qp sa p1 p2) (cwV 2 hk (gV k49 k50 k51 k6 k52) rfl rfl rfl (by decide +kernel) ⟨Nat.le_of_ble_eq_true rfl, Nat.le_of_ble_eq_true rfl⟩) ⟨gU.bl, va_recv hU.2.1 hU.1 (ci := 0) (q0 := 0) rfl rfl, fun U hU2 hW => ⟨rfl, hU.go hW (fun q _ => by rw [hU2])⟩⟩ rfl rfl hl.1 rfl (lv_room (Nat.le_of_ble_eq_true rfl)) dL_equal_5 ⟨Nat.le_of_ble_eq_true rfl, Nat.le_of_ble_eq_true rfl⟩) (fun a H1 hz ho => ?_)
  refine W.eq (g2 := F0 m 20 ls [.ref a]) rfl ?_
  have hS : va_S (fun q : Nat => s.heap.size ≤ q) s.heap H1 [] := ⟨hz, fun q h1 _ => ho q h1, fun _ h => nomatch h⟩
  refine lv_astore (lv' := [(4, .ref a), (0, .ref h0), (1, .int p1), (2, .int p2), (3, .ref p3)]) hx hb dL_equal_20 hl (by decide) rfl (fun ls hl => ?_)
  refine lv_iconst (v := 1) hx hb dL_equal_22 (by decide) ?_
  exact W.iret (v := 1) hx hb hr (fun t ht hW => ⟨⟨1, (), rfl, rfl, trivial⟩, hS.F ht⟩) hS.2.2 dL_equal_23
set_option maxHeartbeats 4000000 in
set_option maxRecDepth 100000 in
theorem cL_terms (l : Launch) (htr : l.stackTraces = false) (dC : Nat → ClassId) (dI : Nat → Nat → Nat) (h0 : Nat) (le : Int32) (qp sa : Nat) (sz : Nat) (p1 : Int32) (p2 : Nat) : Met l yL_terms wL_terms ({ frames := 8, cells := 1, slots := 6, locals := 140 }) (va_Pc [.ref h0, .int p1, .ref p2] (fun U => U.heap.size = sz ∧ gU dC dI h0 le qp sa U)) (va_Qi (fun (r : Int32) (_ : Unit) => r = 1) (fun _ _ => True) (fun q => sz ≤ q)) 1 6 (fun q => sz ≤ q) := by
  refine va_MetW (cc := bL_terms) (maxL := 4) (ret := (some .int)) (by decide) rfl ?_
  intro p e s m args below meth c s₁ B hml hv
  obtain ⟨rfl, hsz, hU⟩ := hv
  have hx := B.exec
  have hb := B.bytes
  have hr := B.returns
  have hts := atoms_spec (ws := wL_terms) B.pre
  have hk : ∀ w ∈ W0, w.before _ s = true := fun w h => hts w (List.mem_cons_of_mem _ h)
  have hown : s.vm.findClass "ImageGcdsLaw" = some m.cls := findClass_of_methodNamed B.named
  have hlocks := B.notSynchronized
  subst hsz
  have htab : c.exceptionTable.toList = tableOf [(0, 9, 12, 19)] := th_table B rfl
  have hl := lv_entry ([.ref h0, .int p1, .ref p2]) (n := 4) (Nat.le_of_ble_eq_true rfl)
  rw [lg_entry_eq]
  generalize (lg_sl ([.ref h0, .int p1, .ref p2]) ++ List.replicate (4 - (lg_sl ([.ref h0, .int p1, .ref p2])).length) Slot.unset).toArray = ls at hl ⊢
  have hl : lv_has ls 4 [(0, .ref h0), (1, .int p1), (2, .ref p2)] := hl
  refine lv_aload_n hx hb dL_terms_0 rfl (lv_at hl 2 rfl) ?_
  refine lv_iconst (v := 0) hx hb dL_terms_1 (by decide) ?_
  refine lv_aload_n hx hb dL_terms_2 rfl (lv_at hl 0 rfl) ?_
  refine lv_iload_n hx hb dL_terms_3 rfl (lv_at hl 1 rfl) ?_
  refine th_catch (own := "ImageGcdsLaw") (x := ⟨0, 9, 12, 19⟩) htab rfl (by decide) rfl hown (hk _ k8) (th_runV (C := "ImageGcds") (As := [.int p1]) (rest := [.int 0, .ref p2]) ⟨hx, hb, hml, hown, hk⟩ (cG_terms l htr dC dI h0 le qp sa p1) (cwV 1 hk (gV k53 k54 k55 k6 k56) rfl rfl rfl (by decide +kernel) ⟨Nat.le_of_ble_eq_true rfl, Nat.le_of_ble_eq_true rfl⟩) ⟨gU.bl, va_recv hU.2.1 hU.1 (ci := 0) (q0 := 0) rfl rfl, fun U hU2 hW => ⟨rfl, hU.go hW (fun q _ => by rw [hU2])⟩⟩ rfl rfl hl.1 rfl (lv_room (Nat.le_of_ble_eq_true rfl)) dL_terms_4 ⟨Nat.le_of_ble_eq_true rfl, Nat.le_of_ble_eq_true rfl⟩) (fun a H1 hz ho => ?_)
  refine W.eq (g2 := F0 m 12 ls [.ref a]) rfl ?_
  have hS : va_S (fun q : Nat => s.heap.size ≤ q) s.heap H1 [] := ⟨hz, fun q h1 _ => ho q h1, fun _ h => nomatch h⟩
  refine lv_astore_n (lv' := [(3, .ref a), (0, .ref h0), (1, .int p1), (2, .ref p2)]) hx hb dL_terms_12 rfl hl (by decide) rfl (fun ls hl => ?_)
  refine lv_iconst (v := 1) hx hb dL_terms_13 (by decide) ?_
  exact W.iret (v := 1) hx hb hr (fun t ht hW => ⟨⟨1, (), rfl, rfl, trivial⟩, hS.F ht⟩) hS.2.2 dL_terms_14
set_option maxHeartbeats 4000000 in
set_option maxRecDepth 100000 in
theorem cL_at (l : Launch) (htr : l.stackTraces = false) (dC : Nat → ClassId) (dI : Nat → Nat → Nat) (h0 : Nat) (le : Int32) (qp sa : Nat) (sz : Nat) (p1 : Int32) (p2 : Int32) (p3 : Int32) (p4 : Nat) : Met l yL_at wL_at ({ frames := 8, cells := 1, slots := 6, locals := 140 }) (va_Pc [.ref h0, .int p1, .int p2, .int p3, .ref p4] (fun U => U.heap.size = sz ∧ gU dC dI h0 le qp sa U)) (va_Qi (fun (r : Int32) (_ : Unit) => r = 1) (fun _ _ => True) (fun q => sz ≤ q)) 1 6 (fun q => sz ≤ q) := by
  refine va_MetW (cc := bL_at) (maxL := 6) (ret := (some .int)) (by decide) rfl ?_
  intro p e s m args below meth c s₁ B hml hv
  obtain ⟨rfl, hsz, hU⟩ := hv
  have hx := B.exec
  have hb := B.bytes
  have hr := B.returns
  have hts := atoms_spec (ws := wL_at) B.pre
  have hk : ∀ w ∈ W0, w.before _ s = true := fun w h => hts w (List.mem_cons_of_mem _ h)
  have hown : s.vm.findClass "ImageGcdsLaw" = some m.cls := findClass_of_methodNamed B.named
  have hlocks := B.notSynchronized
  subst hsz
  have htab : c.exceptionTable.toList = tableOf [(0, 12, 15, 19), (0, 12, 19, 21)] := th_table B rfl
  have hl := lv_entry ([.ref h0, .int p1, .int p2, .int p3, .ref p4]) (n := 6) (Nat.le_of_ble_eq_true rfl)
  rw [lg_entry_eq]
  generalize (lg_sl ([.ref h0, .int p1, .int p2, .int p3, .ref p4]) ++ List.replicate (6 - (lg_sl ([.ref h0, .int p1, .int p2, .int p3, .ref p4])).length) Slot.unset).toArray = ls at hl ⊢
  have hl : lv_has ls 6 [(0, .ref h0), (1, .int p1), (2, .int p2), (3, .int p3), (4, .ref p4)] := hl
  refine lv_aload hx hb dL_at_0 (lv_at hl 4 rfl) ?_
  refine lv_iconst (v := 0) hx hb dL_at_2 (by decide) ?_
  refine lv_aload_n hx hb dL_at_3 rfl (lv_at hl 0 rfl) ?_
  refine lv_iload_n hx hb dL_at_4 rfl (lv_at hl 1 rfl) ?_
  refine lv_iload_n hx hb dL_at_5 rfl (lv_at hl 2 rfl) ?_
  refine lv_iload_n hx hb dL_at_6 rfl (lv_at hl 3 rfl) ?_
  refine th_catch (own := "ImageGcdsLaw") (x := ⟨0, 12, 15, 19⟩) htab rfl (by decide) rfl hown (hk _ k8) (th_runV (C := "ImageGcds") (As := [.int p1, .int p2, .int p3]) (rest := [.int 0, .ref p4]) ⟨hx, hb, hml, hown, hk⟩ (cG_at l htr dC dI h0 le qp sa p1 p2 p3) (cwV 3 hk (gV k57 k58 k59 k6 k60) rfl rfl rfl (by decide +kernel) ⟨Nat.le_of_ble_eq_true rfl, Nat.le_of_ble_eq_true rfl⟩) ⟨gU.bl, va_recv hU.2.1 hU.1 (ci := 0) (q0 := 0) rfl rfl, fun U hU2 hW => ⟨rfl, hU.go hW (fun q _ => by rw [hU2])⟩⟩ rfl rfl hl.1 rfl (lv_room (Nat.le_of_ble_eq_true rfl)) dL_at_7 ⟨Nat.le_of_ble_eq_true rfl, Nat.le_of_ble_eq_true rfl⟩) (fun a H1 hz ho => ?_)
  refine W.eq (g2 := F0 m 15 ls [.ref a]) rfl ?_
  have hS : va_S (fun q : Nat => s.heap.size ≤ q) s.heap H1 [] := ⟨hz, fun q h1 _ => ho q h1, fun _ h => nomatch h⟩
  refine lv_astore (lv' := [(5, .ref a), (0, .ref h0), (1, .int p1), (2, .int p2), (3, .int p3), (4, .ref p4)]) hx hb dL_at_15 hl (by decide) rfl (fun ls hl => ?_)
  refine lv_iconst (v := 1) hx hb dL_at_17 (by decide) ?_
  exact W.iret (v := 1) hx hb hr (fun t ht hW => ⟨⟨1, (), rfl, rfl, trivial⟩, hS.F ht⟩) hS.2.2 dL_at_18
set_option maxHeartbeats 4000000 in
set_option maxRecDepth 100000 in
theorem cL_degree (l : Launch) (htr : l.stackTraces = false) (dC : Nat → ClassId) (dI : Nat → Nat → Nat) (h0 : Nat) (le : Int32) (qp sa : Nat) (sz : Nat) (p1 : Int32) (p2 : Int32) (p3 : Nat) : Met l yL_degree wL_degree ({ frames := 8, cells := 1, slots := 6, locals := 140 }) (va_Pc [.ref h0, .int p1, .int p2, .ref p3] (fun U => U.heap.size = sz ∧ gU dC dI h0 le qp sa U)) (va_Qi (fun (r : Int32) (_ : Unit) => r = 1) (fun _ _ => True) (fun q => sz ≤ q)) 1 6 (fun q => sz ≤ q) := by
  refine va_MetW (cc := bL_degree) (maxL := 5) (ret := (some .int)) (by decide) rfl ?_
  intro p e s m args below meth c s₁ B hml hv
  obtain ⟨rfl, hsz, hU⟩ := hv
  have hx := B.exec
  have hb := B.bytes
  have hr := B.returns
  have hts := atoms_spec (ws := wL_degree) B.pre
  have hk : ∀ w ∈ W0, w.before _ s = true := fun w h => hts w (List.mem_cons_of_mem _ h)
  have hown : s.vm.findClass "ImageGcdsLaw" = some m.cls := findClass_of_methodNamed B.named
  have hlocks := B.notSynchronized
  subst hsz
  have htab : c.exceptionTable.toList = tableOf [(0, 10, 13, 19), (0, 10, 17, 21)] := th_table B rfl
  have hl := lv_entry ([.ref h0, .int p1, .int p2, .ref p3]) (n := 5) (Nat.le_of_ble_eq_true rfl)
  rw [lg_entry_eq]
  generalize (lg_sl ([.ref h0, .int p1, .int p2, .ref p3]) ++ List.replicate (5 - (lg_sl ([.ref h0, .int p1, .int p2, .ref p3])).length) Slot.unset).toArray = ls at hl ⊢
  have hl : lv_has ls 5 [(0, .ref h0), (1, .int p1), (2, .int p2), (3, .ref p3)] := hl
  refine lv_aload_n hx hb dL_degree_0 rfl (lv_at hl 3 rfl) ?_
  refine lv_iconst (v := 0) hx hb dL_degree_1 (by decide) ?_
  refine lv_aload_n hx hb dL_degree_2 rfl (lv_at hl 0 rfl) ?_
  refine lv_iload_n hx hb dL_degree_3 rfl (lv_at hl 1 rfl) ?_
  refine lv_iload_n hx hb dL_degree_4 rfl (lv_at hl 2 rfl) ?_
  refine th_catch (own := "ImageGcdsLaw") (x := ⟨0, 10, 13, 19⟩) htab rfl (by decide) rfl hown (hk _ k8) (th_runV (C := "ImageGcds") (As := [.int p1, .int p2]) (rest := [.int 0, .ref p3]) ⟨hx, hb, hml, hown, hk⟩ (cG_degree l htr dC dI h0 le qp sa p1 p2) (cwV 2 hk (gV k61 k62 k63 k6 k64) rfl rfl rfl (by decide +kernel) ⟨Nat.le_of_ble_eq_true rfl, Nat.le_of_ble_eq_true rfl⟩) ⟨gU.bl, va_recv hU.2.1 hU.1 (ci := 0) (q0 := 0) rfl rfl, fun U hU2 hW => ⟨rfl, hU.go hW (fun q _ => by rw [hU2])⟩⟩ rfl rfl hl.1 rfl (lv_room (Nat.le_of_ble_eq_true rfl)) dL_degree_5 ⟨Nat.le_of_ble_eq_true rfl, Nat.le_of_ble_eq_true rfl⟩) (fun a H1 hz ho => ?_)
  refine W.eq (g2 := F0 m 13 ls [.ref a]) rfl ?_
  have hS : va_S (fun q : Nat => s.heap.size ≤ q) s.heap H1 [] := ⟨hz, fun q h1 _ => ho q h1, fun _ h => nomatch h⟩
  refine lv_astore (lv' := [(4, .ref a), (0, .ref h0), (1, .int p1), (2, .int p2), (3, .ref p3)]) hx hb dL_degree_13 hl (by decide) rfl (fun ls hl => ?_)
  refine lv_iconst (v := 1) hx hb dL_degree_15 (by decide) ?_
  exact W.iret (v := 1) hx hb hr (fun t ht hW => ⟨⟨1, (), rfl, rfl, trivial⟩, hS.F ht⟩) hS.2.2 dL_degree_16
