set_option maxHeartbeats 4000000 in
set_option maxRecDepth 100000 in
theorem la_6 {p : Program} {l : Launch} {e : Env} {s : State} {m : MethodId} {below : List Frame} {meth : Method} {c : Code} {b L : Nat} {xs : Nat → Int32} {Q : State → Prop} {dC : Nat → ClassId} {dI : Nat → Nat → Nat} {q0 qp q1 qn qo sa : Nat} {le lm : Int32} {cA cN cO : ClassId} {fo : Nat → Int64} {f : Nat → Int32} {fs : List Value} {H : Heap} {locs : List Loc} {ls : Array Slot}
    (htr : l.stackTraces = false) (hL8 : L = 8) (hx : p.tables.exec = Jvm.exec) (hb : c.code = bL_law) (hml : c.maxLocals = 7) (hown : s.vm.findClass "ImageGcdsLaw" = some m.cls) (hX : va_X b L xs s s.heap) (hbl : b < s.heap.size) (hk : ∀ w ∈ W0, w.before #[Value.ref b] s = true) (hK : va_K (dC, dI) cls9 [(cA, .object "ImageGcds$Poly"), (cN, .int), (cO, .long)] s) (hth : th_S s) (hstr : vk_R "ImageGcds" 139 "no such polynomial" sa s)
    (hP : va_P (dC, dI) cls9 [(q0, .inr (0, [.int le, .ref qp, .int 0, .null])), (qp, .inl (cA, 60, .inr (.inr (.inr (.inr (fun _ => none)))))), (q1, .inr (2, .int 0 :: .int lm :: .int 0 :: .ref qn :: fs)), (qn, .inl (cN, 290816, .inl f)), (qo, .inl (cO, 1, .inr (.inl fo)))] H) (hD : va_D (fun q : Nat => s.heap.size ≤ q) [(q0, .inr (0, [.int le, .ref qp, .int 0, .null])), (qp, .inl (cA, 60, .inr (.inr (.inr (.inr (fun _ => none)))))), (q1, .inr (2, .int 0 :: .int lm :: .int 0 :: .ref qn :: fs)), (qn, .inl (cN, 290816, .inl f)), (qo, .inl (cO, 1, .inr (.inl fo)))]) (hS : va_S (fun q : Nat => s.heap.size ≤ q) s.heap H locs) (hl : lv_has ls 7 [(4, .int 1), (3, .ref qo), (2, .ref q1), (1, .ref q0), (0, .ref b)])
    (kk : ∀ (H : Heap) (locs : List Loc) (ls : Array Slot), va_S (fun q : Nat => s.heap.size ≤ q) s.heap H locs → lv_has ls 7 [(4, .int 1), (0, .ref b)] → W p l e room_1 s m #[Value.ref b] below meth c H locs 25 344740 Q (F0 m 1265 ls [])) : W p l e room_1 s m #[Value.ref b] below meth c H locs 22 344734 Q (F0 m 609 ls []) := by
  have hA : ∀ q : Nat, s.heap.size ≤ q → (fun q : Nat => s.heap.size ≤ q) q := fun _ h => h
  have hbA : ¬ (fun q : Nat => s.heap.size ≤ q) b := Nat.not_le.mpr hbl
  have hK0 : va_K (dC, dI) cls9 [] s := hK.sub (tys' := []) [] rfl
  refine lv_aload_n hx hb dL_law_609 rfl (lv_at hl 3 rfl) ?_
  refine lv_aload_n hx hb dL_law_610 rfl (lv_at hl 4 rfl) ?_
  refine lv_iload hx hb dL_law_611 (lv_at hl 0 rfl) ?_
  refine lv_iconst (v := 1) hx hb dL_law_613 (by decide) ?_
  refine lv_iadd hx hb dL_law_614 ?_
  refine lv_topi (fun v278 ev278 => ?_)
  have ev278 : v278 = nI 2 := ev278.trans (by decide)
  subst ev278
  refine va_sld hx hb hX hbl hbA hS (vp_in_nI (n := 2) (by omega) (by omega)) dL_law_615 ?_
  refine lv_topi (fun a279 ea279 => ?_)
  refine lv_aload_n hx hb dL_law_616 rfl (lv_at hl 4 rfl) ?_
  refine lv_iload hx hb dL_law_617 (lv_at hl 0 rfl) ?_
  refine lv_iconst (v := 2) hx hb dL_law_619 (by decide) ?_
  refine lv_iadd hx hb dL_law_620 ?_
  refine lv_topi (fun v280 ev280 => ?_)
  have ev280 : v280 = nI 3 := ev280.trans (by decide)
  subst ev280
  refine va_sld hx hb hX hbl hbA hS (vp_in_nI (n := 3) (by omega) (by omega)) dL_law_621 ?_
  refine lv_topi (fun a281 ea281 => ?_)
  refine lv_aload_n hx hb dL_law_622 rfl (lv_at hl 4 rfl) ?_
  refine lv_iload hx hb dL_law_623 (lv_at hl 0 rfl) ?_
  refine lv_iconst (v := 3) hx hb dL_law_625 (by decide) ?_
  refine lv_iadd hx hb dL_law_626 ?_
  refine lv_topi (fun v282 ev282 => ?_)
  have ev282 : v282 = nI 4 := ev282.trans (by decide)
  subst ev282
  refine va_sld hx hb hX hbl hbA hS (vp_in_nI (n := 4) (by omega) (by omega)) dL_law_627 ?_
  refine lv_topi (fun a283 ea283 => ?_)
  refine lv_aload_n hx hb dL_law_628 rfl (lv_at hl 1 rfl) ?_
  have hPg := hP.sub (ws' := [(q0, .inr (0, [.int le, .ref qp, .int 0, .null]))]) [0] rfl
  refine va_calli (th_runS (As := [.ref q0, .int a279, .int a281, .int a283, .ref qo]) (rest := []) ⟨hx, hb, hml, hown, hk⟩ (cL_resultant l htr dC dI q0 le qp sa _ a279 a281 a283 qo) (th_cs 5 hk (gS k194 k195 k156 k196) rfl rfl rfl (by decide +kernel) ⟨Nat.le_of_ble_eq_true rfl, Nat.le_of_ble_eq_true rfl⟩) ⟨gUs, fun U hU hW => ⟨rfl, by rw [hU], gUat hPg hK0 hth hstr hS U hU hW⟩⟩ rfl rfl hl.1 rfl (lv_room (Nat.le_of_ble_eq_true rfl)) dL_law_629 ⟨Nat.le_of_ble_eq_true rfl, Nat.le_of_ble_eq_true rfl⟩) hS (fun q h1 h2 => absurd h1 (Nat.not_lt.mpr h2)) (fun q h => Nat.le_trans hS.1 h) (fun r284 u t H1 locs ht hvm hw hB hz1 hk1 hS => ?_)
  subst hw
  have hP : va_P (dC, dI) cls9 [(q0, .inr (0, [.int le, .ref qp, .int 0, .null])), (qp, .inl (cA, 60, .inr (.inr (.inr (.inr (fun _ => none)))))), (q1, .inr (2, .int 0 :: .int lm :: .int 0 :: .ref qn :: fs)), (qn, .inl (cN, 290816, .inl f)), (qo, .inl (cO, 1, .inr (.inl fo)))] H1 := hP.kept (fun j x hx => hk1 x.1 ((hP j x hx).lt) (Nat.not_le.mpr ((hP j x hx).lt)))
  generalize H1 = H at hP hS ⊢
  refine lv_istore (lv' := [(5, .int 1), (4, .int 1), (3, .ref qo), (2, .ref q1), (1, .ref q0), (0, .ref b)]) hx hb dL_law_632 hl (by decide) rfl (fun ls hl => ?_)
  refine lv_aload_n hx hb dL_law_634 rfl (lv_at hl 3 rfl) ?_
  refine lv_aload_n hx hb dL_law_635 rfl (lv_at hl 5 rfl) ?_
  refine lv_iload hx hb dL_law_636 (lv_at hl 1 rfl) ?_
  refine lv_iconst (v := 1) hx hb dL_law_638 (by decide) ?_
  refine lv_iadd hx hb dL_law_639 ?_
  refine lv_topi (fun v285 ev285 => ?_)
  have ev285 : v285 = nI 2 := ev285.trans (by decide)
  subst ev285
  refine va_sld hx hb hX hbl hbA hS (vp_in_nI (n := 2) (by omega) (by omega)) dL_law_640 ?_
  refine lv_topi (fun a286 ea286 => ?_)
  refine lv_aload_n hx hb dL_law_641 rfl (lv_at hl 5 rfl) ?_
  refine lv_iload hx hb dL_law_642 (lv_at hl 1 rfl) ?_
  refine lv_iconst (v := 2) hx hb dL_law_644 (by decide) ?_
  refine lv_iadd hx hb dL_law_645 ?_
  refine lv_topi (fun v287 ev287 => ?_)
  have ev287 : v287 = nI 3 := ev287.trans (by decide)
  subst ev287
  refine va_sld hx hb hX hbl hbA hS (vp_in_nI (n := 3) (by omega) (by omega)) dL_law_646 ?_
  refine lv_topi (fun a288 ea288 => ?_)
  refine lv_aload_n hx hb dL_law_647 rfl (lv_at hl 5 rfl) ?_
  refine lv_iload hx hb dL_law_648 (lv_at hl 1 rfl) ?_
  refine lv_iconst (v := 3) hx hb dL_law_650 (by decide) ?_
  refine lv_iadd hx hb dL_law_651 ?_
  refine lv_topi (fun v289 ev289 => ?_)
  have ev289 : v289 = nI 4 := ev289.trans (by decide)
  subst ev289
  refine va_sld hx hb hX hbl hbA hS (vp_in_nI (n := 4) (by omega) (by omega)) dL_law_652 ?_
  refine lv_topi (fun a290 ea290 => ?_)
  have hPm := hP.sub (ws' := mW q1 0 lm 0 (.ref qn :: fs)) [2] rfl
  have hq1 : s.heap.size ≤ q1 := hD.2 2 _ rfl
  refine va_calli (va_runV (As := [.int a286, .int a288, .int a290]) (rest := []) ⟨hx, hb, hml, hown, hk⟩ (cM_resultant l dC dI q1 0 lm (.ref qn :: fs) a286 a288 a290) (cwV 3 hk (gV k197 k198 k199 k71 k200) rfl rfl rfl (by decide +kernel) ⟨Nat.le_of_ble_eq_true rfl, Nat.le_of_ble_eq_true rfl⟩) ⟨mB, va_recv hK0 hPm (ci := 2) (q0 := 0) rfl rfl, mP hPm hK0⟩ rfl rfl hl.1 rfl (lv_room (Nat.le_of_ble_eq_true rfl)) dL_law_653 ⟨Nat.le_of_ble_eq_true rfl, Nat.le_of_ble_eq_true rfl⟩) hS (fun q _ h => by rw [h]; exact hq1) (fun q h => by rw [h]; exact hq1) (fun r291 u t H1 locs ht hvm hw hB hz1 hk1 hS => ?_)
  subst hw
  obtain ⟨hPm, hKm⟩ := hB
  rw [ht] at hPm
  generalize H1 = H at hPm hS ⊢
  refine lv_istore (lv' := [(6, .int 0), (5, .int 1), (4, .int 1), (3, .ref qo), (2, .ref q1), (1, .ref q0), (0, .ref b)]) hx hb dL_law_656 hl (by decide) rfl (fun ls hl => ?_)
  refine lv_aload_n hx hb dL_law_658 rfl (lv_at hl 4 rfl) ?_
  refine vp_callSi (W.runV (As := []) (rest := []) ⟨hx, hb, hml, hown, hk⟩ (cM_thrown9 l dC dI q1 1 lm 0 (.ref qn :: fs) _) (cwV 0 hk (gV k162 k163 k164 k71 k165) rfl rfl rfl (by decide +kernel) ⟨Nat.le_of_ble_eq_true rfl, Nat.le_of_ble_eq_true rfl⟩) ⟨nBl, va_recv hK0 hPm (ci := 2) (q0 := 0) rfl rfl, nPr hPm hK0 (mD (h0 := q1))⟩ rfl rfl hl.1 rfl (lv_room (Nat.le_of_ble_eq_true rfl)) dL_law_659 ⟨Nat.le_of_ble_eq_true rfl, Nat.le_of_ble_eq_true rfl⟩) (fun r292 hw => ?_)
  subst hw
  refine lv_iload hx hb dL_law_662 (lv_at hl 1 rfl) ?_
  refine lv_icmp_eq (tgt := 669) hx hb dL_law_664 (by decide) (fun c293 => ?_) (fun c293 => ?_)
  · skip
    refine lv_iload hx hb dL_law_669 (lv_at hl 1 rfl) ?_
    refine lv_if_ne (tgt := 686) hx hb dL_law_671 (by decide) (fun c294 => ?_) (fun c294 => ?_)
    · skip
      refine lv_goto (tgt := 1265) hx hb dL_law_686 (by decide) ?_
      refine W.widen (k := 25) (n := 344740) (Nat.le_of_ble_eq_true rfl) (Nat.le_of_ble_eq_true rfl) ?_
      exact kk _ _ ls hS (lv_sub hl [2, 6] rfl)
    · skip
      exact absurd c294 (by decide)
  · skip
    exact absurd c293 (by decide)
set_option maxHeartbeats 4000000 in
set_option maxRecDepth 100000 in
theorem la_7 {p : Program} {l : Launch} {e : Env} {s : State} {m : MethodId} {below : List Frame} {meth : Method} {c : Code} {b L : Nat} {xs : Nat → Int32} {Q : State → Prop} {dC : Nat → ClassId} {dI : Nat → Nat → Nat} {q0 qp q1 qn qo sa : Nat} {le lm : Int32} {cA cN cO : ClassId} {fo : Nat → Int64} {f : Nat → Int32} {fs : List Value} {H : Heap} {locs : List Loc} {ls : Array Slot}
    (htr : l.stackTraces = false) (hL8 : L = 8) (hx : p.tables.exec = Jvm.exec) (hb : c.code = bL_law) (hml : c.maxLocals = 7) (hown : s.vm.findClass "ImageGcdsLaw" = some m.cls) (hX : va_X b L xs s s.heap) (hbl : b < s.heap.size) (hk : ∀ w ∈ W0, w.before #[Value.ref b] s = true) (hK : va_K (dC, dI) cls9 [(cA, .object "ImageGcds$Poly"), (cN, .int), (cO, .long)] s) (hth : th_S s) (hstr : vk_R "ImageGcds" 139 "no such polynomial" sa s)
    (hP : va_P (dC, dI) cls9 [(q0, .inr (0, [.int le, .ref qp, .int 0, .null])), (qp, .inl (cA, 60, .inr (.inr (.inr (.inr (fun _ => none)))))), (q1, .inr (2, .int 0 :: .int lm :: .int 0 :: .ref qn :: fs)), (qn, .inl (cN, 290816, .inl f)), (qo, .inl (cO, 1, .inr (.inl fo)))] H) (hD : va_D (fun q : Nat => s.heap.size ≤ q) [(q0, .inr (0, [.int le, .ref qp, .int 0, .null])), (qp, .inl (cA, 60, .inr (.inr (.inr (.inr (fun _ => none)))))), (q1, .inr (2, .int 0 :: .int lm :: .int 0 :: .ref qn :: fs)), (qn, .inl (cN, 290816, .inl f)), (qo, .inl (cO, 1, .inr (.inl fo)))]) (hS : va_S (fun q : Nat => s.heap.size ≤ q) s.heap H locs) (hl : lv_has ls 7 [(4, .int 1), (3, .ref qo), (2, .ref q1), (1, .ref q0), (0, .ref b)])
    (kk : ∀ (H : Heap) (locs : List Loc) (ls : Array Slot), va_S (fun q : Nat => s.heap.size ≤ q) s.heap H locs → lv_has ls 7 [(4, .int 1), (0, .ref b)] → W p l e room_1 s m #[Value.ref b] below meth c H locs 25 344740 Q (F0 m 1265 ls [])) : W p l e room_1 s m #[Value.ref b] below meth c H locs 22 344734 Q (F0 m 689 ls []) := by
  have hA : ∀ q : Nat, s.heap.size ≤ q → (fun q : Nat => s.heap.size ≤ q) q := fun _ h => h
  have hbA : ¬ (fun q : Nat => s.heap.size ≤ q) b := Nat.not_le.mpr hbl
  have hK0 : va_K (dC, dI) cls9 [] s := hK.sub (tys' := []) [] rfl
  refine lv_aload_n hx hb dL_law_689 rfl (lv_at hl 3 rfl) ?_
  refine lv_aload_n hx hb dL_law_690 rfl (lv_at hl 4 rfl) ?_
  refine lv_iload hx hb dL_law_691 (lv_at hl 0 rfl) ?_
  refine lv_iconst (v := 1) hx hb dL_law_693 (by decide) ?_
  refine lv_iadd hx hb dL_law_694 ?_
  refine lv_topi (fun v295 ev295 => ?_)
  have ev295 : v295 = nI 2 := ev295.trans (by decide)
  subst ev295
  refine va_sld hx hb hX hbl hbA hS (vp_in_nI (n := 2) (by omega) (by omega)) dL_law_695 ?_
  refine lv_topi (fun a296 ea296 => ?_)
  refine lv_aload_n hx hb dL_law_696 rfl (lv_at hl 4 rfl) ?_
  refine lv_iload hx hb dL_law_697 (lv_at hl 0 rfl) ?_
  refine lv_iconst (v := 2) hx hb dL_law_699 (by decide) ?_
  refine lv_iadd hx hb dL_law_700 ?_
  refine lv_topi (fun v297 ev297 => ?_)
  have ev297 : v297 = nI 3 := ev297.trans (by decide)
  subst ev297
  refine va_sld hx hb hX hbl hbA hS (vp_in_nI (n := 3) (by omega) (by omega)) dL_law_701 ?_
  refine lv_topi (fun a298 ea298 => ?_)
  refine lv_aload_n hx hb dL_law_702 rfl (lv_at hl 1 rfl) ?_
  have hPg := hP.sub (ws' := [(q0, .inr (0, [.int le, .ref qp, .int 0, .null]))]) [0] rfl
  refine va_calli (th_runS (As := [.ref q0, .int a296, .int a298, .ref qo]) (rest := []) ⟨hx, hb, hml, hown, hk⟩ (cL_slope l htr dC dI q0 le qp sa _ a296 a298 qo) (th_cs 4 hk (gS k201 k202 k156 k203) rfl rfl rfl (by decide +kernel) ⟨Nat.le_of_ble_eq_true rfl, Nat.le_of_ble_eq_true rfl⟩) ⟨gUs, fun U hU hW => ⟨rfl, by rw [hU], gUat hPg hK0 hth hstr hS U hU hW⟩⟩ rfl rfl hl.1 rfl (lv_room (Nat.le_of_ble_eq_true rfl)) dL_law_703 ⟨Nat.le_of_ble_eq_true rfl, Nat.le_of_ble_eq_true rfl⟩) hS (fun q h1 h2 => absurd h1 (Nat.not_lt.mpr h2)) (fun q h => Nat.le_trans hS.1 h) (fun r299 u t H1 locs ht hvm hw hB hz1 hk1 hS => ?_)
  subst hw
  have hP : va_P (dC, dI) cls9 [(q0, .inr (0, [.int le, .ref qp, .int 0, .null])), (qp, .inl (cA, 60, .inr (.inr (.inr (.inr (fun _ => none)))))), (q1, .inr (2, .int 0 :: .int lm :: .int 0 :: .ref qn :: fs)), (qn, .inl (cN, 290816, .inl f)), (qo, .inl (cO, 1, .inr (.inl fo)))] H1 := hP.kept (fun j x hx => hk1 x.1 ((hP j x hx).lt) (Nat.not_le.mpr ((hP j x hx).lt)))
  generalize H1 = H at hP hS ⊢
  refine lv_istore (lv' := [(5, .int 1), (4, .int 1), (3, .ref qo), (2, .ref q1), (1, .ref q0), (0, .ref b)]) hx hb dL_law_706 hl (by decide) rfl (fun ls hl => ?_)
  refine lv_aload_n hx hb dL_law_708 rfl (lv_at hl 3 rfl) ?_
  refine lv_aload_n hx hb dL_law_709 rfl (lv_at hl 5 rfl) ?_
  refine lv_iload hx hb dL_law_710 (lv_at hl 1 rfl) ?_
  refine lv_iconst (v := 1) hx hb dL_law_712 (by decide) ?_
  refine lv_iadd hx hb dL_law_713 ?_
  refine lv_topi (fun v300 ev300 => ?_)
  have ev300 : v300 = nI 2 := ev300.trans (by decide)
  subst ev300
  refine va_sld hx hb hX hbl hbA hS (vp_in_nI (n := 2) (by omega) (by omega)) dL_law_714 ?_
  refine lv_topi (fun a301 ea301 => ?_)
  refine lv_aload_n hx hb dL_law_715 rfl (lv_at hl 5 rfl) ?_
  refine lv_iload hx hb dL_law_716 (lv_at hl 1 rfl) ?_
  refine lv_iconst (v := 2) hx hb dL_law_718 (by decide) ?_
  refine lv_iadd hx hb dL_law_719 ?_
  refine lv_topi (fun v302 ev302 => ?_)
  have ev302 : v302 = nI 3 := ev302.trans (by decide)
  subst ev302
  refine va_sld hx hb hX hbl hbA hS (vp_in_nI (n := 3) (by omega) (by omega)) dL_law_720 ?_
  refine lv_topi (fun a303 ea303 => ?_)
  have hPm := hP.sub (ws' := mW q1 0 lm 0 (.ref qn :: fs)) [2] rfl
  have hq1 : s.heap.size ≤ q1 := hD.2 2 _ rfl
  refine va_calli (va_runV (As := [.int a301, .int a303]) (rest := []) ⟨hx, hb, hml, hown, hk⟩ (cM_slope l dC dI q1 0 lm (.ref qn :: fs) a301 a303) (cwV 2 hk (gV k204 k205 k206 k71 k207) rfl rfl rfl (by decide +kernel) ⟨Nat.le_of_ble_eq_true rfl, Nat.le_of_ble_eq_true rfl⟩) ⟨mB, va_recv hK0 hPm (ci := 2) (q0 := 0) rfl rfl, mP hPm hK0⟩ rfl rfl hl.1 rfl (lv_room (Nat.le_of_ble_eq_true rfl)) dL_law_721 ⟨Nat.le_of_ble_eq_true rfl, Nat.le_of_ble_eq_true rfl⟩) hS (fun q _ h => by rw [h]; exact hq1) (fun q h => by rw [h]; exact hq1) (fun r304 u t H1 locs ht hvm hw hB hz1 hk1 hS => ?_)
  subst hw
  obtain ⟨hPm, hKm⟩ := hB
  rw [ht] at hPm
  generalize H1 = H at hPm hS ⊢
  refine lv_istore (lv' := [(6, .int 0), (5, .int 1), (4, .int 1), (3, .ref qo), (2, .ref q1), (1, .ref q0), (0, .ref b)]) hx hb dL_law_724 hl (by decide) rfl (fun ls hl => ?_)
  refine lv_aload_n hx hb dL_law_726 rfl (lv_at hl 4 rfl) ?_
  refine vp_callSi (W.runV (As := []) (rest := []) ⟨hx, hb, hml, hown, hk⟩ (cM_thrown9 l dC dI q1 1 lm 0 (.ref qn :: fs) _) (cwV 0 hk (gV k162 k163 k164 k71 k165) rfl rfl rfl (by decide +kernel) ⟨Nat.le_of_ble_eq_true rfl, Nat.le_of_ble_eq_true rfl⟩) ⟨nBl, va_recv hK0 hPm (ci := 2) (q0 := 0) rfl rfl, nPr hPm hK0 (mD (h0 := q1))⟩ rfl rfl hl.1 rfl (lv_room (Nat.le_of_ble_eq_true rfl)) dL_law_727 ⟨Nat.le_of_ble_eq_true rfl, Nat.le_of_ble_eq_true rfl⟩) (fun r305 hw => ?_)
  subst hw
  refine lv_iload hx hb dL_law_730 (lv_at hl 1 rfl) ?_
  refine lv_icmp_eq (tgt := 737) hx hb dL_law_732 (by decide) (fun c306 => ?_) (fun c306 => ?_)
  · skip
    refine lv_iload hx hb dL_law_737 (lv_at hl 1 rfl) ?_
    refine lv_if_ne (tgt := 754) hx hb dL_law_739 (by decide) (fun c307 => ?_) (fun c307 => ?_)
    · skip
      refine lv_goto (tgt := 1265) hx hb dL_law_754 (by decide) ?_
      refine W.widen (k := 25) (n := 344740) (Nat.le_of_ble_eq_true rfl) (Nat.le_of_ble_eq_true rfl) ?_
      exact kk _ _ ls hS (lv_sub hl [2, 6] rfl)
    · skip
      exact absurd c307 (by decide)
  · skip
    exact absurd c306 (by decide)
set_option maxHeartbeats 4000000 in
set_option maxRecDepth 100000 in
theorem la_8 {p : Program} {l : Launch} {e : Env} {s : State} {m : MethodId} {below : List Frame} {meth : Method} {c : Code} {b L : Nat} {xs : Nat → Int32} {Q : State → Prop} {dC : Nat → ClassId} {dI : Nat → Nat → Nat} {q0 qp q1 qn qo sa : Nat} {le lm : Int32} {cA cN cO : ClassId} {fo : Nat → Int64} {f : Nat → Int32} {fs : List Value} {H : Heap} {locs : List Loc} {ls : Array Slot}
    (htr : l.stackTraces = false) (hL8 : L = 8) (hx : p.tables.exec = Jvm.exec) (hb : c.code = bL_law) (hml : c.maxLocals = 7) (hown : s.vm.findClass "ImageGcdsLaw" = some m.cls) (hX : va_X b L xs s s.heap) (hbl : b < s.heap.size) (hk : ∀ w ∈ W0, w.before #[Value.ref b] s = true) (hK : va_K (dC, dI) cls9 [(cA, .object "ImageGcds$Poly"), (cN, .int), (cO, .long)] s) (hth : th_S s) (hstr : vk_R "ImageGcds" 139 "no such polynomial" sa s)
    (hP : va_P (dC, dI) cls9 [(q0, .inr (0, [.int le, .ref qp, .int 0, .null])), (qp, .inl (cA, 60, .inr (.inr (.inr (.inr (fun _ => none)))))), (q1, .inr (2, .int 0 :: .int lm :: .int 0 :: .ref qn :: fs)), (qn, .inl (cN, 290816, .inl f)), (qo, .inl (cO, 1, .inr (.inl fo)))] H) (hD : va_D (fun q : Nat => s.heap.size ≤ q) [(q0, .inr (0, [.int le, .ref qp, .int 0, .null])), (qp, .inl (cA, 60, .inr (.inr (.inr (.inr (fun _ => none)))))), (q1, .inr (2, .int 0 :: .int lm :: .int 0 :: .ref qn :: fs)), (qn, .inl (cN, 290816, .inl f)), (qo, .inl (cO, 1, .inr (.inl fo)))]) (hS : va_S (fun q : Nat => s.heap.size ≤ q) s.heap H locs) (hl : lv_has ls 7 [(4, .int 1), (3, .ref qo), (2, .ref q1), (1, .ref q0), (0, .ref b)])
    (kk : ∀ (H : Heap) (locs : List Loc) (ls : Array Slot), va_S (fun q : Nat => s.heap.size ≤ q) s.heap H locs → lv_has ls 7 [(4, .int 1), (0, .ref b)] → W p l e room_1 s m #[Value.ref b] below meth c H locs 25 344740 Q (F0 m 1265 ls [])) : W p l e room_1 s m #[Value.ref b] below meth c H locs 22 344734 Q (F0 m 757 ls []) := by
  have hA : ∀ q : Nat, s.heap.size ≤ q → (fun q : Nat => s.heap.size ≤ q) q := fun _ h => h
  have hbA : ¬ (fun q : Nat => s.heap.size ≤ q) b := Nat.not_le.mpr hbl
  have hK0 : va_K (dC, dI) cls9 [] s := hK.sub (tys' := []) [] rfl
  refine lv_aload_n hx hb dL_law_757 rfl (lv_at hl 3 rfl) ?_
  refine lv_aload_n hx hb dL_law_758 rfl (lv_at hl 4 rfl) ?_
  refine lv_iload hx hb dL_law_759 (lv_at hl 0 rfl) ?_
  refine lv_iconst (v := 1) hx hb dL_law_761 (by decide) ?_
  refine lv_iadd hx hb dL_law_762 ?_
  refine lv_topi (fun v308 ev308 => ?_)
  have ev308 : v308 = nI 2 := ev308.trans (by decide)
  subst ev308
  refine va_sld hx hb hX hbl hbA hS (vp_in_nI (n := 2) (by omega) (by omega)) dL_law_763 ?_
  refine lv_topi (fun a309 ea309 => ?_)
  refine lv_aload_n hx hb dL_law_764 rfl (lv_at hl 4 rfl) ?_
  refine lv_iload hx hb dL_law_765 (lv_at hl 0 rfl) ?_
  refine lv_iconst (v := 2) hx hb dL_law_767 (by decide) ?_
  refine lv_iadd hx hb dL_law_768 ?_
  refine lv_topi (fun v310 ev310 => ?_)
  have ev310 : v310 = nI 3 := ev310.trans (by decide)
  subst ev310
  refine va_sld hx hb hX hbl hbA hS (vp_in_nI (n := 3) (by omega) (by omega)) dL_law_769 ?_
  refine lv_topi (fun a311 ea311 => ?_)
  refine lv_aload_n hx hb dL_law_770 rfl (lv_at hl 1 rfl) ?_
  have hPg := hP.sub (ws' := [(q0, .inr (0, [.int le, .ref qp, .int 0, .null]))]) [0] rfl
  refine va_calli (th_runS (As := [.ref q0, .int a309, .int a311, .ref qo]) (rest := []) ⟨hx, hb, hml, hown, hk⟩ (cL_content l htr dC dI q0 le qp sa _ a309 a311 qo) (th_cs 4 hk (gS k208 k209 k156 k210) rfl rfl rfl (by decide +kernel) ⟨Nat.le_of_ble_eq_true rfl, Nat.le_of_ble_eq_true rfl⟩) ⟨gUs, fun U hU hW => ⟨rfl, by rw [hU], gUat hPg hK0 hth hstr hS U hU hW⟩⟩ rfl rfl hl.1 rfl (lv_room (Nat.le_of_ble_eq_true rfl)) dL_law_771 ⟨Nat.le_of_ble_eq_true rfl, Nat.le_of_ble_eq_true rfl⟩) hS (fun q h1 h2 => absurd h1 (Nat.not_lt.mpr h2)) (fun q h => Nat.le_trans hS.1 h) (fun r312 u t H1 locs ht hvm hw hB hz1 hk1 hS => ?_)
  subst hw
  have hP : va_P (dC, dI) cls9 [(q0, .inr (0, [.int le, .ref qp, .int 0, .null])), (qp, .inl (cA, 60, .inr (.inr (.inr (.inr (fun _ => none)))))), (q1, .inr (2, .int 0 :: .int lm :: .int 0 :: .ref qn :: fs)), (qn, .inl (cN, 290816, .inl f)), (qo, .inl (cO, 1, .inr (.inl fo)))] H1 := hP.kept (fun j x hx => hk1 x.1 ((hP j x hx).lt) (Nat.not_le.mpr ((hP j x hx).lt)))
  generalize H1 = H at hP hS ⊢
  refine lv_istore (lv' := [(5, .int 1), (4, .int 1), (3, .ref qo), (2, .ref q1), (1, .ref q0), (0, .ref b)]) hx hb dL_law_774 hl (by decide) rfl (fun ls hl => ?_)
  refine lv_aload_n hx hb dL_law_776 rfl (lv_at hl 3 rfl) ?_
  refine lv_aload_n hx hb dL_law_777 rfl (lv_at hl 5 rfl) ?_
  refine lv_iload hx hb dL_law_778 (lv_at hl 1 rfl) ?_
  refine lv_iconst (v := 1) hx hb dL_law_780 (by decide) ?_
  refine lv_iadd hx hb dL_law_781 ?_
  refine lv_topi (fun v313 ev313 => ?_)
  have ev313 : v313 = nI 2 := ev313.trans (by decide)
  subst ev313
  refine va_sld hx hb hX hbl hbA hS (vp_in_nI (n := 2) (by omega) (by omega)) dL_law_782 ?_
  refine lv_topi (fun a314 ea314 => ?_)
  refine lv_aload_n hx hb dL_law_783 rfl (lv_at hl 5 rfl) ?_
  refine lv_iload hx hb dL_law_784 (lv_at hl 1 rfl) ?_
  refine lv_iconst (v := 2) hx hb dL_law_786 (by decide) ?_
  refine lv_iadd hx hb dL_law_787 ?_
  refine lv_topi (fun v315 ev315 => ?_)
  have ev315 : v315 = nI 3 := ev315.trans (by decide)
  subst ev315
  refine va_sld hx hb hX hbl hbA hS (vp_in_nI (n := 3) (by omega) (by omega)) dL_law_788 ?_
  refine lv_topi (fun a316 ea316 => ?_)
  have hPm := hP.sub (ws' := mW q1 0 lm 0 (.ref qn :: fs)) [2] rfl
  have hq1 : s.heap.size ≤ q1 := hD.2 2 _ rfl
  refine va_calli (va_runV (As := [.int a314, .int a316]) (rest := []) ⟨hx, hb, hml, hown, hk⟩ (cM_content l dC dI q1 0 lm (.ref qn :: fs) a314 a316) (cwV 2 hk (gV k211 k212 k213 k71 k214) rfl rfl rfl (by decide +kernel) ⟨Nat.le_of_ble_eq_true rfl, Nat.le_of_ble_eq_true rfl⟩) ⟨mB, va_recv hK0 hPm (ci := 2) (q0 := 0) rfl rfl, mP hPm hK0⟩ rfl rfl hl.1 rfl (lv_room (Nat.le_of_ble_eq_true rfl)) dL_law_789 ⟨Nat.le_of_ble_eq_true rfl, Nat.le_of_ble_eq_true rfl⟩) hS (fun q _ h => by rw [h]; exact hq1) (fun q h => by rw [h]; exact hq1) (fun r317 u t H1 locs ht hvm hw hB hz1 hk1 hS => ?_)
  subst hw
  obtain ⟨hPm, hKm⟩ := hB
  rw [ht] at hPm
  generalize H1 = H at hPm hS ⊢
  refine lv_istore (lv' := [(6, .int 0), (5, .int 1), (4, .int 1), (3, .ref qo), (2, .ref q1), (1, .ref q0), (0, .ref b)]) hx hb dL_law_792 hl (by decide) rfl (fun ls hl => ?_)
  refine lv_aload_n hx hb dL_law_794 rfl (lv_at hl 4 rfl) ?_
  refine vp_callSi (W.runV (As := []) (rest := []) ⟨hx, hb, hml, hown, hk⟩ (cM_thrown9 l dC dI q1 1 lm 0 (.ref qn :: fs) _) (cwV 0 hk (gV k162 k163 k164 k71 k165) rfl rfl rfl (by decide +kernel) ⟨Nat.le_of_ble_eq_true rfl, Nat.le_of_ble_eq_true rfl⟩) ⟨nBl, va_recv hK0 hPm (ci := 2) (q0 := 0) rfl rfl, nPr hPm hK0 (mD (h0 := q1))⟩ rfl rfl hl.1 rfl (lv_room (Nat.le_of_ble_eq_true rfl)) dL_law_795 ⟨Nat.le_of_ble_eq_true rfl, Nat.le_of_ble_eq_true rfl⟩) (fun r318 hw => ?_)
  subst hw
  refine lv_iload hx hb dL_law_798 (lv_at hl 1 rfl) ?_
  refine lv_icmp_eq (tgt := 805) hx hb dL_law_800 (by decide) (fun c319 => ?_) (fun c319 => ?_)
  · skip
    refine lv_iload hx hb dL_law_805 (lv_at hl 1 rfl) ?_
    refine lv_if_ne (tgt := 822) hx hb dL_law_807 (by decide) (fun c320 => ?_) (fun c320 => ?_)
    · skip
      refine lv_goto (tgt := 1265) hx hb dL_law_822 (by decide) ?_
      refine W.widen (k := 25) (n := 344740) (Nat.le_of_ble_eq_true rfl) (Nat.le_of_ble_eq_true rfl) ?_
      exact kk _ _ ls hS (lv_sub hl [2, 6] rfl)
    · skip
      exact absurd c320 (by decide)
  · skip
    exact absurd c319 (by decide)
set_option maxHeartbeats 4000000 in
set_option maxRecDepth 100000 in
theorem la_9 {p : Program} {l : Launch} {e : Env} {s : State} {m : MethodId} {below : List Frame} {meth : Method} {c : Code} {b L : Nat} {xs : Nat → Int32} {Q : State → Prop} {dC : Nat → ClassId} {dI : Nat → Nat → Nat} {q0 qp q1 qn qo sa : Nat} {le lm : Int32} {cA cN cO : ClassId} {fo : Nat → Int64} {f : Nat → Int32} {fs : List Value} {H : Heap} {locs : List Loc} {ls : Array Slot}
    (htr : l.stackTraces = false) (hL8 : L = 8) (hx : p.tables.exec = Jvm.exec) (hb : c.code = bL_law) (hml : c.maxLocals = 7) (hown : s.vm.findClass "ImageGcdsLaw" = some m.cls) (hX : va_X b L xs s s.heap) (hbl : b < s.heap.size) (hk : ∀ w ∈ W0, w.before #[Value.ref b] s = true) (hK : va_K (dC, dI) cls9 [(cA, .object "ImageGcds$Poly"), (cN, .int), (cO, .long)] s) (hth : th_S s) (hstr : vk_R "ImageGcds" 139 "no such polynomial" sa s)
    (hP : va_P (dC, dI) cls9 [(q0, .inr (0, [.int le, .ref qp, .int 0, .null])), (qp, .inl (cA, 60, .inr (.inr (.inr (.inr (fun _ => none)))))), (q1, .inr (2, .int 0 :: .int lm :: .int 0 :: .ref qn :: fs)), (qn, .inl (cN, 290816, .inl f)), (qo, .inl (cO, 1, .inr (.inl fo)))] H) (hD : va_D (fun q : Nat => s.heap.size ≤ q) [(q0, .inr (0, [.int le, .ref qp, .int 0, .null])), (qp, .inl (cA, 60, .inr (.inr (.inr (.inr (fun _ => none)))))), (q1, .inr (2, .int 0 :: .int lm :: .int 0 :: .ref qn :: fs)), (qn, .inl (cN, 290816, .inl f)), (qo, .inl (cO, 1, .inr (.inl fo)))]) (hS : va_S (fun q : Nat => s.heap.size ≤ q) s.heap H locs) (hl : lv_has ls 7 [(4, .int 1), (3, .ref qo), (2, .ref q1), (1, .ref q0), (0, .ref b)])
    (kk : ∀ (H : Heap) (locs : List Loc) (ls : Array Slot), va_S (fun q : Nat => s.heap.size ≤ q) s.heap H locs → lv_has ls 7 [(4, .int 1), (0, .ref b)] → W p l e room_1 s m #[Value.ref b] below meth c H locs 25 344740 Q (F0 m 1265 ls [])) : W p l e room_1 s m #[Value.ref b] below meth c H locs 22 344734 Q (F0 m 825 ls []) := by
  have hA : ∀ q : Nat, s.heap.size ≤ q → (fun q : Nat => s.heap.size ≤ q) q := fun _ h => h
  have hbA : ¬ (fun q : Nat => s.heap.size ≤ q) b := Nat.not_le.mpr hbl
  have hK0 : va_K (dC, dI) cls9 [] s := hK.sub (tys' := []) [] rfl
  refine lv_aload_n hx hb dL_law_825 rfl (lv_at hl 3 rfl) ?_
  refine lv_aload_n hx hb dL_law_826 rfl (lv_at hl 4 rfl) ?_
  refine lv_iload hx hb dL_law_827 (lv_at hl 0 rfl) ?_
  refine lv_iconst (v := 1) hx hb dL_law_829 (by decide) ?_
  refine lv_iadd hx hb dL_law_830 ?_
  refine lv_topi (fun v321 ev321 => ?_)
  have ev321 : v321 = nI 2 := ev321.trans (by decide)
  subst ev321
  refine va_sld hx hb hX hbl hbA hS (vp_in_nI (n := 2) (by omega) (by omega)) dL_law_831 ?_
  refine lv_topi (fun a322 ea322 => ?_)
  refine lv_aload_n hx hb dL_law_832 rfl (lv_at hl 4 rfl) ?_
  refine lv_iload hx hb dL_law_833 (lv_at hl 0 rfl) ?_
  refine lv_iconst (v := 2) hx hb dL_law_835 (by decide) ?_
  refine lv_iadd hx hb dL_law_836 ?_
  refine lv_topi (fun v323 ev323 => ?_)
  have ev323 : v323 = nI 3 := ev323.trans (by decide)
  subst ev323
  refine va_sld hx hb hX hbl hbA hS (vp_in_nI (n := 3) (by omega) (by omega)) dL_law_837 ?_
  refine lv_topi (fun a324 ea324 => ?_)
  refine lv_aload_n hx hb dL_law_838 rfl (lv_at hl 1 rfl) ?_
  have hPg := hP.sub (ws' := [(q0, .inr (0, [.int le, .ref qp, .int 0, .null]))]) [0] rfl
  refine va_calli (th_runS (As := [.ref q0, .int a322, .int a324, .ref qo]) (rest := []) ⟨hx, hb, hml, hown, hk⟩ (cL_part l htr dC dI q0 le qp sa _ a322 a324 qo) (th_cs 4 hk (gS k215 k216 k156 k217) rfl rfl rfl (by decide +kernel) ⟨Nat.le_of_ble_eq_true rfl, Nat.le_of_ble_eq_true rfl⟩) ⟨gUs, fun U hU hW => ⟨rfl, by rw [hU], gUat hPg hK0 hth hstr hS U hU hW⟩⟩ rfl rfl hl.1 rfl (lv_room (Nat.le_of_ble_eq_true rfl)) dL_law_839 ⟨Nat.le_of_ble_eq_true rfl, Nat.le_of_ble_eq_true rfl⟩) hS (fun q h1 h2 => absurd h1 (Nat.not_lt.mpr h2)) (fun q h => Nat.le_trans hS.1 h) (fun r325 u t H1 locs ht hvm hw hB hz1 hk1 hS => ?_)
  subst hw
  have hP : va_P (dC, dI) cls9 [(q0, .inr (0, [.int le, .ref qp, .int 0, .null])), (qp, .inl (cA, 60, .inr (.inr (.inr (.inr (fun _ => none)))))), (q1, .inr (2, .int 0 :: .int lm :: .int 0 :: .ref qn :: fs)), (qn, .inl (cN, 290816, .inl f)), (qo, .inl (cO, 1, .inr (.inl fo)))] H1 := hP.kept (fun j x hx => hk1 x.1 ((hP j x hx).lt) (Nat.not_le.mpr ((hP j x hx).lt)))
  generalize H1 = H at hP hS ⊢
  refine lv_istore (lv' := [(5, .int 1), (4, .int 1), (3, .ref qo), (2, .ref q1), (1, .ref q0), (0, .ref b)]) hx hb dL_law_842 hl (by decide) rfl (fun ls hl => ?_)
  refine lv_aload_n hx hb dL_law_844 rfl (lv_at hl 3 rfl) ?_
  refine lv_aload_n hx hb dL_law_845 rfl (lv_at hl 5 rfl) ?_
  refine lv_iload hx hb dL_law_846 (lv_at hl 1 rfl) ?_
  refine lv_iconst (v := 1) hx hb dL_law_848 (by decide) ?_
  refine lv_iadd hx hb dL_law_849 ?_
  refine lv_topi (fun v326 ev326 => ?_)
  have ev326 : v326 = nI 2 := ev326.trans (by decide)
  subst ev326
  refine va_sld hx hb hX hbl hbA hS (vp_in_nI (n := 2) (by omega) (by omega)) dL_law_850 ?_
  refine lv_topi (fun a327 ea327 => ?_)
  refine lv_aload_n hx hb dL_law_851 rfl (lv_at hl 5 rfl) ?_
  refine lv_iload hx hb dL_law_852 (lv_at hl 1 rfl) ?_
  refine lv_iconst (v := 2) hx hb dL_law_854 (by decide) ?_
  refine lv_iadd hx hb dL_law_855 ?_
  refine lv_topi (fun v328 ev328 => ?_)
  have ev328 : v328 = nI 3 := ev328.trans (by decide)
  subst ev328
  refine va_sld hx hb hX hbl hbA hS (vp_in_nI (n := 3) (by omega) (by omega)) dL_law_856 ?_
  refine lv_topi (fun a329 ea329 => ?_)
  have hPm := hP.sub (ws' := mW q1 0 lm 0 (.ref qn :: fs)) [2] rfl
  have hq1 : s.heap.size ≤ q1 := hD.2 2 _ rfl
  refine va_calli (va_runV (As := [.int a327, .int a329]) (rest := []) ⟨hx, hb, hml, hown, hk⟩ (cM_part l dC dI q1 0 lm (.ref qn :: fs) a327 a329) (cwV 2 hk (gV k218 k219 k220 k71 k221) rfl rfl rfl (by decide +kernel) ⟨Nat.le_of_ble_eq_true rfl, Nat.le_of_ble_eq_true rfl⟩) ⟨mB, va_recv hK0 hPm (ci := 2) (q0 := 0) rfl rfl, mP hPm hK0⟩ rfl rfl hl.1 rfl (lv_room (Nat.le_of_ble_eq_true rfl)) dL_law_857 ⟨Nat.le_of_ble_eq_true rfl, Nat.le_of_ble_eq_true rfl⟩) hS (fun q _ h => by rw [h]; exact hq1) (fun q h => by rw [h]; exact hq1) (fun r330 u t H1 locs ht hvm hw hB hz1 hk1 hS => ?_)
  subst hw
  obtain ⟨hPm, hKm⟩ := hB
  rw [ht] at hPm
  generalize H1 = H at hPm hS ⊢
  refine lv_istore (lv' := [(6, .int 0), (5, .int 1), (4, .int 1), (3, .ref qo), (2, .ref q1), (1, .ref q0), (0, .ref b)]) hx hb dL_law_860 hl (by decide) rfl (fun ls hl => ?_)
  refine lv_aload_n hx hb dL_law_862 rfl (lv_at hl 4 rfl) ?_
  refine vp_callSi (W.runV (As := []) (rest := []) ⟨hx, hb, hml, hown, hk⟩ (cM_thrown9 l dC dI q1 1 lm 0 (.ref qn :: fs) _) (cwV 0 hk (gV k162 k163 k164 k71 k165) rfl rfl rfl (by decide +kernel) ⟨Nat.le_of_ble_eq_true rfl, Nat.le_of_ble_eq_true rfl⟩) ⟨nBl, va_recv hK0 hPm (ci := 2) (q0 := 0) rfl rfl, nPr hPm hK0 (mD (h0 := q1))⟩ rfl rfl hl.1 rfl (lv_room (Nat.le_of_ble_eq_true rfl)) dL_law_863 ⟨Nat.le_of_ble_eq_true rfl, Nat.le_of_ble_eq_true rfl⟩) (fun r331 hw => ?_)
  subst hw
  refine lv_iload hx hb dL_law_866 (lv_at hl 1 rfl) ?_
  refine lv_icmp_eq (tgt := 873) hx hb dL_law_868 (by decide) (fun c332 => ?_) (fun c332 => ?_)
  · skip
    refine lv_iload hx hb dL_law_873 (lv_at hl 1 rfl) ?_
    refine lv_if_ne (tgt := 890) hx hb dL_law_875 (by decide) (fun c333 => ?_) (fun c333 => ?_)
    · skip
      refine lv_goto (tgt := 1265) hx hb dL_law_890 (by decide) ?_
      refine W.widen (k := 25) (n := 344740) (Nat.le_of_ble_eq_true rfl) (Nat.le_of_ble_eq_true rfl) ?_
      exact kk _ _ ls hS (lv_sub hl [2, 6] rfl)
    · skip
      exact absurd c333 (by decide)
  · skip
    exact absurd c332 (by decide)
set_option maxHeartbeats 4000000 in
set_option maxRecDepth 100000 in
theorem la_10 {p : Program} {l : Launch} {e : Env} {s : State} {m : MethodId} {below : List Frame} {meth : Method} {c : Code} {b L : Nat} {xs : Nat → Int32} {Q : State → Prop} {dC : Nat → ClassId} {dI : Nat → Nat → Nat} {q0 qp q1 qn qo sa : Nat} {le lm : Int32} {cA cN cO : ClassId} {fo : Nat → Int64} {f : Nat → Int32} {fs : List Value} {H : Heap} {locs : List Loc} {ls : Array Slot}
    (htr : l.stackTraces = false) (hL8 : L = 8) (hx : p.tables.exec = Jvm.exec) (hb : c.code = bL_law) (hml : c.maxLocals = 7) (hown : s.vm.findClass "ImageGcdsLaw" = some m.cls) (hX : va_X b L xs s s.heap) (hbl : b < s.heap.size) (hk : ∀ w ∈ W0, w.before #[Value.ref b] s = true) (hK : va_K (dC, dI) cls9 [(cA, .object "ImageGcds$Poly"), (cN, .int), (cO, .long)] s) (hth : th_S s) (hstr : vk_R "ImageGcds" 139 "no such polynomial" sa s)
    (hP : va_P (dC, dI) cls9 [(q0, .inr (0, [.int le, .ref qp, .int 0, .null])), (qp, .inl (cA, 60, .inr (.inr (.inr (.inr (fun _ => none)))))), (q1, .inr (2, .int 0 :: .int lm :: .int 0 :: .ref qn :: fs)), (qn, .inl (cN, 290816, .inl f)), (qo, .inl (cO, 1, .inr (.inl fo)))] H) (hD : va_D (fun q : Nat => s.heap.size ≤ q) [(q0, .inr (0, [.int le, .ref qp, .int 0, .null])), (qp, .inl (cA, 60, .inr (.inr (.inr (.inr (fun _ => none)))))), (q1, .inr (2, .int 0 :: .int lm :: .int 0 :: .ref qn :: fs)), (qn, .inl (cN, 290816, .inl f)), (qo, .inl (cO, 1, .inr (.inl fo)))]) (hS : va_S (fun q : Nat => s.heap.size ≤ q) s.heap H locs) (hl : lv_has ls 7 [(4, .int 1), (3, .ref qo), (2, .ref q1), (1, .ref q0), (0, .ref b)])
    (kk : ∀ (H : Heap) (locs : List Loc) (ls : Array Slot), va_S (fun q : Nat => s.heap.size ≤ q) s.heap H locs → lv_has ls 7 [(4, .int 1), (0, .ref b)] → W p l e room_1 s m #[Value.ref b] below meth c H locs 25 344740 Q (F0 m 1265 ls [])) : W p l e room_1 s m #[Value.ref b] below meth c H locs 22 344734 Q (F0 m 893 ls []) := by
  have hA : ∀ q : Nat, s.heap.size ≤ q → (fun q : Nat => s.heap.size ≤ q) q := fun _ h => h
  have hbA : ¬ (fun q : Nat => s.heap.size ≤ q) b := Nat.not_le.mpr hbl
  have hK0 : va_K (dC, dI) cls9 [] s := hK.sub (tys' := []) [] rfl
  refine lv_aload_n hx hb dL_law_893 rfl (lv_at hl 3 rfl) ?_
  refine lv_aload_n hx hb dL_law_894 rfl (lv_at hl 4 rfl) ?_
  refine lv_iload hx hb dL_law_895 (lv_at hl 0 rfl) ?_
  refine lv_iconst (v := 1) hx hb dL_law_897 (by decide) ?_
  refine lv_iadd hx hb dL_law_898 ?_
  refine lv_topi (fun v334 ev334 => ?_)
  have ev334 : v334 = nI 2 := ev334.trans (by decide)
  subst ev334
  refine va_sld hx hb hX hbl hbA hS (vp_in_nI (n := 2) (by omega) (by omega)) dL_law_899 ?_
  refine lv_topi (fun a335 ea335 => ?_)
  refine lv_aload_n hx hb dL_law_900 rfl (lv_at hl 4 rfl) ?_
  refine lv_iload hx hb dL_law_901 (lv_at hl 0 rfl) ?_
  refine lv_iconst (v := 2) hx hb dL_law_903 (by decide) ?_
  refine lv_iadd hx hb dL_law_904 ?_
  refine lv_topi (fun v336 ev336 => ?_)
  have ev336 : v336 = nI 3 := ev336.trans (by decide)
  subst ev336
  refine va_sld hx hb hX hbl hbA hS (vp_in_nI (n := 3) (by omega) (by omega)) dL_law_905 ?_
  refine lv_topi (fun a337 ea337 => ?_)
  refine lv_aload_n hx hb dL_law_906 rfl (lv_at hl 4 rfl) ?_
  refine lv_iload hx hb dL_law_907 (lv_at hl 0 rfl) ?_
  refine lv_iconst (v := 3) hx hb dL_law_909 (by decide) ?_
  refine lv_iadd hx hb dL_law_910 ?_
  refine lv_topi (fun v338 ev338 => ?_)
  have ev338 : v338 = nI 4 := ev338.trans (by decide)
  subst ev338
  refine va_sld hx hb hX hbl hbA hS (vp_in_nI (n := 4) (by omega) (by omega)) dL_law_911 ?_
  refine lv_topi (fun a339 ea339 => ?_)
  refine lv_aload_n hx hb dL_law_912 rfl (lv_at hl 1 rfl) ?_
  have hPg := hP.sub (ws' := [(q0, .inr (0, [.int le, .ref qp, .int 0, .null]))]) [0] rfl
  refine va_calli (th_runS (As := [.ref q0, .int a335, .int a337, .int a339, .ref qo]) (rest := []) ⟨hx, hb, hml, hown, hk⟩ (cL_image l htr dC dI q0 le qp sa _ a335 a337 a339 qo) (th_cs 5 hk (gS k222 k223 k156 k224) rfl rfl rfl (by decide +kernel) ⟨Nat.le_of_ble_eq_true rfl, Nat.le_of_ble_eq_true rfl⟩) ⟨gUs, fun U hU hW => ⟨rfl, by rw [hU], gUat hPg hK0 hth hstr hS U hU hW⟩⟩ rfl rfl hl.1 rfl (lv_room (Nat.le_of_ble_eq_true rfl)) dL_law_913 ⟨Nat.le_of_ble_eq_true rfl, Nat.le_of_ble_eq_true rfl⟩) hS (fun q h1 h2 => absurd h1 (Nat.not_lt.mpr h2)) (fun q h => Nat.le_trans hS.1 h) (fun r340 u t H1 locs ht hvm hw hB hz1 hk1 hS => ?_)
  subst hw
  have hP : va_P (dC, dI) cls9 [(q0, .inr (0, [.int le, .ref qp, .int 0, .null])), (qp, .inl (cA, 60, .inr (.inr (.inr (.inr (fun _ => none)))))), (q1, .inr (2, .int 0 :: .int lm :: .int 0 :: .ref qn :: fs)), (qn, .inl (cN, 290816, .inl f)), (qo, .inl (cO, 1, .inr (.inl fo)))] H1 := hP.kept (fun j x hx => hk1 x.1 ((hP j x hx).lt) (Nat.not_le.mpr ((hP j x hx).lt)))
  generalize H1 = H at hP hS ⊢
  refine lv_istore (lv' := [(5, .int 1), (4, .int 1), (3, .ref qo), (2, .ref q1), (1, .ref q0), (0, .ref b)]) hx hb dL_law_916 hl (by decide) rfl (fun ls hl => ?_)
  refine lv_aload_n hx hb dL_law_918 rfl (lv_at hl 3 rfl) ?_
  refine lv_aload_n hx hb dL_law_919 rfl (lv_at hl 5 rfl) ?_
  refine lv_iload hx hb dL_law_920 (lv_at hl 1 rfl) ?_
  refine lv_iconst (v := 1) hx hb dL_law_922 (by decide) ?_
  refine lv_iadd hx hb dL_law_923 ?_
  refine lv_topi (fun v341 ev341 => ?_)
  have ev341 : v341 = nI 2 := ev341.trans (by decide)
  subst ev341
  refine va_sld hx hb hX hbl hbA hS (vp_in_nI (n := 2) (by omega) (by omega)) dL_law_924 ?_
  refine lv_topi (fun a342 ea342 => ?_)
  refine lv_aload_n hx hb dL_law_925 rfl (lv_at hl 5 rfl) ?_
  refine lv_iload hx hb dL_law_926 (lv_at hl 1 rfl) ?_
  refine lv_iconst (v := 2) hx hb dL_law_928 (by decide) ?_
  refine lv_iadd hx hb dL_law_929 ?_
  refine lv_topi (fun v343 ev343 => ?_)
  have ev343 : v343 = nI 3 := ev343.trans (by decide)
  subst ev343
  refine va_sld hx hb hX hbl hbA hS (vp_in_nI (n := 3) (by omega) (by omega)) dL_law_930 ?_
  refine lv_topi (fun a344 ea344 => ?_)
  refine lv_aload_n hx hb dL_law_931 rfl (lv_at hl 5 rfl) ?_
  refine lv_iload hx hb dL_law_932 (lv_at hl 1 rfl) ?_
  refine lv_iconst (v := 3) hx hb dL_law_934 (by decide) ?_
  refine lv_iadd hx hb dL_law_935 ?_
  refine lv_topi (fun v345 ev345 => ?_)
  have ev345 : v345 = nI 4 := ev345.trans (by decide)
  subst ev345
  refine va_sld hx hb hX hbl hbA hS (vp_in_nI (n := 4) (by omega) (by omega)) dL_law_936 ?_
  refine lv_topi (fun a346 ea346 => ?_)
  have hPm := hP.sub (ws' := mW q1 0 lm 0 (.ref qn :: fs)) [2] rfl
  have hq1 : s.heap.size ≤ q1 := hD.2 2 _ rfl
  refine va_calli (va_runV (As := [.int a342, .int a344, .int a346]) (rest := []) ⟨hx, hb, hml, hown, hk⟩ (cM_image l dC dI q1 0 lm (.ref qn :: fs) a342 a344 a346) (cwV 3 hk (gV k225 k226 k227 k71 k228) rfl rfl rfl (by decide +kernel) ⟨Nat.le_of_ble_eq_true rfl, Nat.le_of_ble_eq_true rfl⟩) ⟨mB, va_recv hK0 hPm (ci := 2) (q0 := 0) rfl rfl, mP hPm hK0⟩ rfl rfl hl.1 rfl (lv_room (Nat.le_of_ble_eq_true rfl)) dL_law_937 ⟨Nat.le_of_ble_eq_true rfl, Nat.le_of_ble_eq_true rfl⟩) hS (fun q _ h => by rw [h]; exact hq1) (fun q h => by rw [h]; exact hq1) (fun r347 u t H1 locs ht hvm hw hB hz1 hk1 hS => ?_)
  subst hw
  obtain ⟨hPm, hKm⟩ := hB
  rw [ht] at hPm
  generalize H1 = H at hPm hS ⊢
  refine lv_istore (lv' := [(6, .int 0), (5, .int 1), (4, .int 1), (3, .ref qo), (2, .ref q1), (1, .ref q0), (0, .ref b)]) hx hb dL_law_940 hl (by decide) rfl (fun ls hl => ?_)
  refine lv_aload_n hx hb dL_law_942 rfl (lv_at hl 4 rfl) ?_
  refine vp_callSi (W.runV (As := []) (rest := []) ⟨hx, hb, hml, hown, hk⟩ (cM_thrown9 l dC dI q1 1 lm 0 (.ref qn :: fs) _) (cwV 0 hk (gV k162 k163 k164 k71 k165) rfl rfl rfl (by decide +kernel) ⟨Nat.le_of_ble_eq_true rfl, Nat.le_of_ble_eq_true rfl⟩) ⟨nBl, va_recv hK0 hPm (ci := 2) (q0 := 0) rfl rfl, nPr hPm hK0 (mD (h0 := q1))⟩ rfl rfl hl.1 rfl (lv_room (Nat.le_of_ble_eq_true rfl)) dL_law_943 ⟨Nat.le_of_ble_eq_true rfl, Nat.le_of_ble_eq_true rfl⟩) (fun r348 hw => ?_)
  subst hw
  refine lv_iload hx hb dL_law_946 (lv_at hl 1 rfl) ?_
  refine lv_icmp_eq (tgt := 953) hx hb dL_law_948 (by decide) (fun c349 => ?_) (fun c349 => ?_)
  · skip
    refine lv_iload hx hb dL_law_953 (lv_at hl 1 rfl) ?_
    refine lv_if_ne (tgt := 970) hx hb dL_law_955 (by decide) (fun c350 => ?_) (fun c350 => ?_)
    · skip
      refine lv_goto (tgt := 1265) hx hb dL_law_970 (by decide) ?_
      refine W.widen (k := 25) (n := 344740) (Nat.le_of_ble_eq_true rfl) (Nat.le_of_ble_eq_true rfl) ?_
      exact kk _ _ ls hS (lv_sub hl [2, 6] rfl)
    · skip
      exact absurd c350 (by decide)
  · skip
    exact absurd c349 (by decide)
