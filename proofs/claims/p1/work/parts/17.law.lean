set_option maxHeartbeats 4000000 in
set_option maxRecDepth 100000 in
theorem la_11 {p : Program} {l : Launch} {e : Env} {s : State} {m : MethodId} {below : List Frame} {meth : Method} {c : Code} {b L : Nat} {xs : Nat → Int32} {Q : State → Prop} {dC : Nat → ClassId} {dI : Nat → Nat → Nat} {q0 qp q1 qn qo sa : Nat} {le lm : Int32} {cA cN cO : ClassId} {fo : Nat → Int64} {f : Nat → Int32} {fs : List Value} {H : Heap} {locs : List Loc} {ls : Array Slot}
    (htr : l.stackTraces = false) (hL8 : L = 8) (hx : p.tables.exec = Jvm.exec) (hb : c.code = bL_law) (hml : c.maxLocals = 7) (hown : s.vm.findClass "ImageGcdsLaw" = some m.cls) (hX : va_X b L xs s s.heap) (hbl : b < s.heap.size) (hk : ∀ w ∈ W0, w.before #[Value.ref b] s = true) (hK : va_K (dC, dI) cls9 [(cA, .object "ImageGcds$Poly"), (cN, .int), (cO, .long)] s) (hth : th_S s) (hstr : vk_R "ImageGcds" 139 "no such polynomial" sa s)
    (hP : va_P (dC, dI) cls9 [(q0, .inr (0, [.int le, .ref qp, .int 0, .null])), (qp, .inl (cA, 60, .inr (.inr (.inr (.inr (fun _ => none)))))), (q1, .inr (2, .int 0 :: .int lm :: .int 0 :: .ref qn :: fs)), (qn, .inl (cN, 290816, .inl f)), (qo, .inl (cO, 1, .inr (.inl fo)))] H) (hD : va_D (fun q : Nat => s.heap.size ≤ q) [(q0, .inr (0, [.int le, .ref qp, .int 0, .null])), (qp, .inl (cA, 60, .inr (.inr (.inr (.inr (fun _ => none)))))), (q1, .inr (2, .int 0 :: .int lm :: .int 0 :: .ref qn :: fs)), (qn, .inl (cN, 290816, .inl f)), (qo, .inl (cO, 1, .inr (.inl fo)))]) (hS : va_S (fun q : Nat => s.heap.size ≤ q) s.heap H locs) (hl : lv_has ls 7 [(4, .int 1), (3, .ref qo), (2, .ref q1), (1, .ref q0), (0, .ref b)])
    (kk : ∀ (H : Heap) (locs : List Loc) (ls : Array Slot), va_S (fun q : Nat => s.heap.size ≤ q) s.heap H locs → lv_has ls 7 [(4, .int 1), (0, .ref b)] → W p l e room_1 s m #[Value.ref b] below meth c H locs 25 344740 Q (F0 m 1265 ls [])) : W p l e room_1 s m #[Value.ref b] below meth c H locs 22 344734 Q (F0 m 973 ls []) := by
  have hA : ∀ q : Nat, s.heap.size ≤ q → (fun q : Nat => s.heap.size ≤ q) q := fun _ h => h
  have hbA : ¬ (fun q : Nat => s.heap.size ≤ q) b := Nat.not_le.mpr hbl
  have hK0 : va_K (dC, dI) cls9 [] s := hK.sub (tys' := []) [] rfl
  refine lv_aload_n hx hb dL_law_973 rfl (lv_at hl 3 rfl) ?_
  refine lv_aload_n hx hb dL_law_974 rfl (lv_at hl 4 rfl) ?_
  refine lv_iload hx hb dL_law_975 (lv_at hl 0 rfl) ?_
  refine lv_iconst (v := 1) hx hb dL_law_977 (by decide) ?_
  refine lv_iadd hx hb dL_law_978 ?_
  refine lv_topi (fun v351 ev351 => ?_)
  have ev351 : v351 = nI 2 := ev351.trans (by decide)
  subst ev351
  refine va_sld hx hb hX hbl hbA hS (vp_in_nI (n := 2) (by omega) (by omega)) dL_law_979 ?_
  refine lv_topi (fun a352 ea352 => ?_)
  refine lv_aload_n hx hb dL_law_980 rfl (lv_at hl 4 rfl) ?_
  refine lv_iload hx hb dL_law_981 (lv_at hl 0 rfl) ?_
  refine lv_iconst (v := 2) hx hb dL_law_983 (by decide) ?_
  refine lv_iadd hx hb dL_law_984 ?_
  refine lv_topi (fun v353 ev353 => ?_)
  have ev353 : v353 = nI 3 := ev353.trans (by decide)
  subst ev353
  refine va_sld hx hb hX hbl hbA hS (vp_in_nI (n := 3) (by omega) (by omega)) dL_law_985 ?_
  refine lv_topi (fun a354 ea354 => ?_)
  refine lv_aload_n hx hb dL_law_986 rfl (lv_at hl 1 rfl) ?_
  have hPg := hP.sub (ws' := [(q0, .inr (0, [.int le, .ref qp, .int 0, .null]))]) [0] rfl
  refine va_calli (th_runS (As := [.ref q0, .int a352, .int a354, .ref qo]) (rest := []) ⟨hx, hb, hml, hown, hk⟩ (cL_equal l htr dC dI q0 le qp sa _ a352 a354 qo) (th_cs 4 hk (gS k229 k230 k156 k231) rfl rfl rfl (by decide +kernel) ⟨Nat.le_of_ble_eq_true rfl, Nat.le_of_ble_eq_true rfl⟩) ⟨gUs, fun U hU hW => ⟨rfl, by rw [hU], gUat hPg hK0 hth hstr hS U hU hW⟩⟩ rfl rfl hl.1 rfl (lv_room (Nat.le_of_ble_eq_true rfl)) dL_law_987 ⟨Nat.le_of_ble_eq_true rfl, Nat.le_of_ble_eq_true rfl⟩) hS (fun q h1 h2 => absurd h1 (Nat.not_lt.mpr h2)) (fun q h => Nat.le_trans hS.1 h) (fun r355 u t H1 locs ht hvm hw hB hz1 hk1 hS => ?_)
  subst hw
  have hP : va_P (dC, dI) cls9 [(q0, .inr (0, [.int le, .ref qp, .int 0, .null])), (qp, .inl (cA, 60, .inr (.inr (.inr (.inr (fun _ => none)))))), (q1, .inr (2, .int 0 :: .int lm :: .int 0 :: .ref qn :: fs)), (qn, .inl (cN, 290816, .inl f)), (qo, .inl (cO, 1, .inr (.inl fo)))] H1 := hP.kept (fun j x hx => hk1 x.1 ((hP j x hx).lt) (Nat.not_le.mpr ((hP j x hx).lt)))
  generalize H1 = H at hP hS ⊢
  refine lv_istore (lv' := [(5, .int 1), (4, .int 1), (3, .ref qo), (2, .ref q1), (1, .ref q0), (0, .ref b)]) hx hb dL_law_990 hl (by decide) rfl (fun ls hl => ?_)
  refine lv_aload_n hx hb dL_law_992 rfl (lv_at hl 3 rfl) ?_
  refine lv_aload_n hx hb dL_law_993 rfl (lv_at hl 5 rfl) ?_
  refine lv_iload hx hb dL_law_994 (lv_at hl 1 rfl) ?_
  refine lv_iconst (v := 1) hx hb dL_law_996 (by decide) ?_
  refine lv_iadd hx hb dL_law_997 ?_
  refine lv_topi (fun v356 ev356 => ?_)
  have ev356 : v356 = nI 2 := ev356.trans (by decide)
  subst ev356
  refine va_sld hx hb hX hbl hbA hS (vp_in_nI (n := 2) (by omega) (by omega)) dL_law_998 ?_
  refine lv_topi (fun a357 ea357 => ?_)
  refine lv_aload_n hx hb dL_law_999 rfl (lv_at hl 5 rfl) ?_
  refine lv_iload hx hb dL_law_1000 (lv_at hl 1 rfl) ?_
  refine lv_iconst (v := 2) hx hb dL_law_1002 (by decide) ?_
  refine lv_iadd hx hb dL_law_1003 ?_
  refine lv_topi (fun v358 ev358 => ?_)
  have ev358 : v358 = nI 3 := ev358.trans (by decide)
  subst ev358
  refine va_sld hx hb hX hbl hbA hS (vp_in_nI (n := 3) (by omega) (by omega)) dL_law_1004 ?_
  refine lv_topi (fun a359 ea359 => ?_)
  have hPm := hP.sub (ws' := mW q1 0 lm 0 (.ref qn :: fs)) [2] rfl
  have hq1 : s.heap.size ≤ q1 := hD.2 2 _ rfl
  refine va_calli (va_runV (As := [.int a357, .int a359]) (rest := []) ⟨hx, hb, hml, hown, hk⟩ (cM_equal l dC dI q1 0 lm (.ref qn :: fs) a357 a359) (cwV 2 hk (gV k232 k233 k234 k71 k235) rfl rfl rfl (by decide +kernel) ⟨Nat.le_of_ble_eq_true rfl, Nat.le_of_ble_eq_true rfl⟩) ⟨mB, va_recv hK0 hPm (ci := 2) (q0 := 0) rfl rfl, mP hPm hK0⟩ rfl rfl hl.1 rfl (lv_room (Nat.le_of_ble_eq_true rfl)) dL_law_1005 ⟨Nat.le_of_ble_eq_true rfl, Nat.le_of_ble_eq_true rfl⟩) hS (fun q _ h => by rw [h]; exact hq1) (fun q h => by rw [h]; exact hq1) (fun r360 u t H1 locs ht hvm hw hB hz1 hk1 hS => ?_)
  subst hw
  obtain ⟨hPm, hKm⟩ := hB
  rw [ht] at hPm
  generalize H1 = H at hPm hS ⊢
  refine lv_istore (lv' := [(6, .int 0), (5, .int 1), (4, .int 1), (3, .ref qo), (2, .ref q1), (1, .ref q0), (0, .ref b)]) hx hb dL_law_1008 hl (by decide) rfl (fun ls hl => ?_)
  refine lv_aload_n hx hb dL_law_1010 rfl (lv_at hl 4 rfl) ?_
  refine vp_callSi (W.runV (As := []) (rest := []) ⟨hx, hb, hml, hown, hk⟩ (cM_thrown9 l dC dI q1 1 lm 0 (.ref qn :: fs) _) (cwV 0 hk (gV k162 k163 k164 k71 k165) rfl rfl rfl (by decide +kernel) ⟨Nat.le_of_ble_eq_true rfl, Nat.le_of_ble_eq_true rfl⟩) ⟨nBl, va_recv hK0 hPm (ci := 2) (q0 := 0) rfl rfl, nPr hPm hK0 (mD (h0 := q1))⟩ rfl rfl hl.1 rfl (lv_room (Nat.le_of_ble_eq_true rfl)) dL_law_1011 ⟨Nat.le_of_ble_eq_true rfl, Nat.le_of_ble_eq_true rfl⟩) (fun r361 hw => ?_)
  subst hw
  refine lv_iload hx hb dL_law_1014 (lv_at hl 1 rfl) ?_
  refine lv_icmp_eq (tgt := 1021) hx hb dL_law_1016 (by decide) (fun c362 => ?_) (fun c362 => ?_)
  · skip
    refine lv_iload hx hb dL_law_1021 (lv_at hl 1 rfl) ?_
    refine lv_if_ne (tgt := 1045) hx hb dL_law_1023 (by decide) (fun c363 => ?_) (fun c363 => ?_)
    · skip
      refine lv_goto (tgt := 1265) hx hb dL_law_1045 (by decide) ?_
      refine W.widen (k := 25) (n := 344740) (Nat.le_of_ble_eq_true rfl) (Nat.le_of_ble_eq_true rfl) ?_
      exact kk _ _ ls hS (lv_sub hl [2, 6] rfl)
    · skip
      exact absurd c363 (by decide)
  · skip
    exact absurd c362 (by decide)
set_option maxHeartbeats 4000000 in
set_option maxRecDepth 100000 in
theorem la_12 {p : Program} {l : Launch} {e : Env} {s : State} {m : MethodId} {below : List Frame} {meth : Method} {c : Code} {b L : Nat} {xs : Nat → Int32} {Q : State → Prop} {dC : Nat → ClassId} {dI : Nat → Nat → Nat} {q0 qp q1 qn qo sa : Nat} {le lm : Int32} {cA cN cO : ClassId} {fo : Nat → Int64} {f : Nat → Int32} {fs : List Value} {H : Heap} {locs : List Loc} {ls : Array Slot}
    (htr : l.stackTraces = false) (hL8 : L = 8) (hx : p.tables.exec = Jvm.exec) (hb : c.code = bL_law) (hml : c.maxLocals = 7) (hown : s.vm.findClass "ImageGcdsLaw" = some m.cls) (hX : va_X b L xs s s.heap) (hbl : b < s.heap.size) (hk : ∀ w ∈ W0, w.before #[Value.ref b] s = true) (hK : va_K (dC, dI) cls9 [(cA, .object "ImageGcds$Poly"), (cN, .int), (cO, .long)] s) (hth : th_S s) (hstr : vk_R "ImageGcds" 139 "no such polynomial" sa s)
    (hP : va_P (dC, dI) cls9 [(q0, .inr (0, [.int le, .ref qp, .int 0, .null])), (qp, .inl (cA, 60, .inr (.inr (.inr (.inr (fun _ => none)))))), (q1, .inr (2, .int 0 :: .int lm :: .int 0 :: .ref qn :: fs)), (qn, .inl (cN, 290816, .inl f)), (qo, .inl (cO, 1, .inr (.inl fo)))] H) (hD : va_D (fun q : Nat => s.heap.size ≤ q) [(q0, .inr (0, [.int le, .ref qp, .int 0, .null])), (qp, .inl (cA, 60, .inr (.inr (.inr (.inr (fun _ => none)))))), (q1, .inr (2, .int 0 :: .int lm :: .int 0 :: .ref qn :: fs)), (qn, .inl (cN, 290816, .inl f)), (qo, .inl (cO, 1, .inr (.inl fo)))]) (hS : va_S (fun q : Nat => s.heap.size ≤ q) s.heap H locs) (hl : lv_has ls 7 [(4, .int 1), (3, .ref qo), (2, .ref q1), (1, .ref q0), (0, .ref b)])
    (kk : ∀ (H : Heap) (locs : List Loc) (ls : Array Slot), va_S (fun q : Nat => s.heap.size ≤ q) s.heap H locs → lv_has ls 7 [(4, .int 1), (0, .ref b)] → W p l e room_1 s m #[Value.ref b] below meth c H locs 25 344740 Q (F0 m 1265 ls [])) : W p l e room_1 s m #[Value.ref b] below meth c H locs 22 344734 Q (F0 m 1048 ls []) := by
  have hA : ∀ q : Nat, s.heap.size ≤ q → (fun q : Nat => s.heap.size ≤ q) q := fun _ h => h
  have hbA : ¬ (fun q : Nat => s.heap.size ≤ q) b := Nat.not_le.mpr hbl
  have hK0 : va_K (dC, dI) cls9 [] s := hK.sub (tys' := []) [] rfl
  refine lv_aload_n hx hb dL_law_1048 rfl (lv_at hl 3 rfl) ?_
  refine lv_aload_n hx hb dL_law_1049 rfl (lv_at hl 4 rfl) ?_
  refine lv_iload hx hb dL_law_1050 (lv_at hl 0 rfl) ?_
  refine lv_iconst (v := 1) hx hb dL_law_1052 (by decide) ?_
  refine lv_iadd hx hb dL_law_1053 ?_
  refine lv_topi (fun v364 ev364 => ?_)
  have ev364 : v364 = nI 2 := ev364.trans (by decide)
  subst ev364
  refine va_sld hx hb hX hbl hbA hS (vp_in_nI (n := 2) (by omega) (by omega)) dL_law_1054 ?_
  refine lv_topi (fun a365 ea365 => ?_)
  refine lv_aload_n hx hb dL_law_1055 rfl (lv_at hl 1 rfl) ?_
  have hPg := hP.sub (ws' := [(q0, .inr (0, [.int le, .ref qp, .int 0, .null]))]) [0] rfl
  refine va_calli (th_runS (As := [.ref q0, .int a365, .ref qo]) (rest := []) ⟨hx, hb, hml, hown, hk⟩ (cL_terms l htr dC dI q0 le qp sa _ a365 qo) (th_cs 3 hk (gS k236 k237 k156 k238) rfl rfl rfl (by decide +kernel) ⟨Nat.le_of_ble_eq_true rfl, Nat.le_of_ble_eq_true rfl⟩) ⟨gUs, fun U hU hW => ⟨rfl, by rw [hU], gUat hPg hK0 hth hstr hS U hU hW⟩⟩ rfl rfl hl.1 rfl (lv_room (Nat.le_of_ble_eq_true rfl)) dL_law_1056 ⟨Nat.le_of_ble_eq_true rfl, Nat.le_of_ble_eq_true rfl⟩) hS (fun q h1 h2 => absurd h1 (Nat.not_lt.mpr h2)) (fun q h => Nat.le_trans hS.1 h) (fun r366 u t H1 locs ht hvm hw hB hz1 hk1 hS => ?_)
  subst hw
  have hP : va_P (dC, dI) cls9 [(q0, .inr (0, [.int le, .ref qp, .int 0, .null])), (qp, .inl (cA, 60, .inr (.inr (.inr (.inr (fun _ => none)))))), (q1, .inr (2, .int 0 :: .int lm :: .int 0 :: .ref qn :: fs)), (qn, .inl (cN, 290816, .inl f)), (qo, .inl (cO, 1, .inr (.inl fo)))] H1 := hP.kept (fun j x hx => hk1 x.1 ((hP j x hx).lt) (Nat.not_le.mpr ((hP j x hx).lt)))
  generalize H1 = H at hP hS ⊢
  refine lv_istore (lv' := [(5, .int 1), (4, .int 1), (3, .ref qo), (2, .ref q1), (1, .ref q0), (0, .ref b)]) hx hb dL_law_1059 hl (by decide) rfl (fun ls hl => ?_)
  refine lv_aload_n hx hb dL_law_1061 rfl (lv_at hl 3 rfl) ?_
  refine lv_aload_n hx hb dL_law_1062 rfl (lv_at hl 5 rfl) ?_
  refine lv_iload hx hb dL_law_1063 (lv_at hl 1 rfl) ?_
  refine lv_iconst (v := 1) hx hb dL_law_1065 (by decide) ?_
  refine lv_iadd hx hb dL_law_1066 ?_
  refine lv_topi (fun v367 ev367 => ?_)
  have ev367 : v367 = nI 2 := ev367.trans (by decide)
  subst ev367
  refine va_sld hx hb hX hbl hbA hS (vp_in_nI (n := 2) (by omega) (by omega)) dL_law_1067 ?_
  refine lv_topi (fun a368 ea368 => ?_)
  have hPm := hP.sub (ws' := mW q1 0 lm 0 (.ref qn :: fs)) [2] rfl
  have hq1 : s.heap.size ≤ q1 := hD.2 2 _ rfl
  refine va_calli (va_runV (As := [.int a368]) (rest := []) ⟨hx, hb, hml, hown, hk⟩ (cM_terms l dC dI q1 0 lm (.ref qn :: fs) a368) (cwV 1 hk (gV k239 k240 k241 k71 k242) rfl rfl rfl (by decide +kernel) ⟨Nat.le_of_ble_eq_true rfl, Nat.le_of_ble_eq_true rfl⟩) ⟨mB, va_recv hK0 hPm (ci := 2) (q0 := 0) rfl rfl, mP hPm hK0⟩ rfl rfl hl.1 rfl (lv_room (Nat.le_of_ble_eq_true rfl)) dL_law_1068 ⟨Nat.le_of_ble_eq_true rfl, Nat.le_of_ble_eq_true rfl⟩) hS (fun q _ h => by rw [h]; exact hq1) (fun q h => by rw [h]; exact hq1) (fun r369 u t H1 locs ht hvm hw hB hz1 hk1 hS => ?_)
  subst hw
  obtain ⟨hPm, hKm⟩ := hB
  rw [ht] at hPm
  generalize H1 = H at hPm hS ⊢
  refine lv_istore (lv' := [(6, .int 0), (5, .int 1), (4, .int 1), (3, .ref qo), (2, .ref q1), (1, .ref q0), (0, .ref b)]) hx hb dL_law_1071 hl (by decide) rfl (fun ls hl => ?_)
  refine lv_aload_n hx hb dL_law_1073 rfl (lv_at hl 4 rfl) ?_
  refine vp_callSi (W.runV (As := []) (rest := []) ⟨hx, hb, hml, hown, hk⟩ (cM_thrown9 l dC dI q1 1 lm 0 (.ref qn :: fs) _) (cwV 0 hk (gV k162 k163 k164 k71 k165) rfl rfl rfl (by decide +kernel) ⟨Nat.le_of_ble_eq_true rfl, Nat.le_of_ble_eq_true rfl⟩) ⟨nBl, va_recv hK0 hPm (ci := 2) (q0 := 0) rfl rfl, nPr hPm hK0 (mD (h0 := q1))⟩ rfl rfl hl.1 rfl (lv_room (Nat.le_of_ble_eq_true rfl)) dL_law_1074 ⟨Nat.le_of_ble_eq_true rfl, Nat.le_of_ble_eq_true rfl⟩) (fun r370 hw => ?_)
  subst hw
  refine lv_iload hx hb dL_law_1077 (lv_at hl 1 rfl) ?_
  refine lv_icmp_eq (tgt := 1084) hx hb dL_law_1079 (by decide) (fun c371 => ?_) (fun c371 => ?_)
  · skip
    refine lv_iload hx hb dL_law_1084 (lv_at hl 1 rfl) ?_
    refine lv_if_ne (tgt := 1101) hx hb dL_law_1086 (by decide) (fun c372 => ?_) (fun c372 => ?_)
    · skip
      refine lv_goto (tgt := 1265) hx hb dL_law_1101 (by decide) ?_
      refine W.widen (k := 25) (n := 344740) (Nat.le_of_ble_eq_true rfl) (Nat.le_of_ble_eq_true rfl) ?_
      exact kk _ _ ls hS (lv_sub hl [2, 6] rfl)
    · skip
      exact absurd c372 (by decide)
  · skip
    exact absurd c371 (by decide)
set_option maxHeartbeats 4000000 in
set_option maxRecDepth 100000 in
theorem la_13 {p : Program} {l : Launch} {e : Env} {s : State} {m : MethodId} {below : List Frame} {meth : Method} {c : Code} {b L : Nat} {xs : Nat → Int32} {Q : State → Prop} {dC : Nat → ClassId} {dI : Nat → Nat → Nat} {q0 qp q1 qn qo sa : Nat} {le lm : Int32} {cA cN cO : ClassId} {fo : Nat → Int64} {f : Nat → Int32} {fs : List Value} {H : Heap} {locs : List Loc} {ls : Array Slot}
    (htr : l.stackTraces = false) (hL8 : L = 8) (hx : p.tables.exec = Jvm.exec) (hb : c.code = bL_law) (hml : c.maxLocals = 7) (hown : s.vm.findClass "ImageGcdsLaw" = some m.cls) (hX : va_X b L xs s s.heap) (hbl : b < s.heap.size) (hk : ∀ w ∈ W0, w.before #[Value.ref b] s = true) (hK : va_K (dC, dI) cls9 [(cA, .object "ImageGcds$Poly"), (cN, .int), (cO, .long)] s) (hth : th_S s) (hstr : vk_R "ImageGcds" 139 "no such polynomial" sa s)
    (hP : va_P (dC, dI) cls9 [(q0, .inr (0, [.int le, .ref qp, .int 0, .null])), (qp, .inl (cA, 60, .inr (.inr (.inr (.inr (fun _ => none)))))), (q1, .inr (2, .int 0 :: .int lm :: .int 0 :: .ref qn :: fs)), (qn, .inl (cN, 290816, .inl f)), (qo, .inl (cO, 1, .inr (.inl fo)))] H) (hD : va_D (fun q : Nat => s.heap.size ≤ q) [(q0, .inr (0, [.int le, .ref qp, .int 0, .null])), (qp, .inl (cA, 60, .inr (.inr (.inr (.inr (fun _ => none)))))), (q1, .inr (2, .int 0 :: .int lm :: .int 0 :: .ref qn :: fs)), (qn, .inl (cN, 290816, .inl f)), (qo, .inl (cO, 1, .inr (.inl fo)))]) (hS : va_S (fun q : Nat => s.heap.size ≤ q) s.heap H locs) (hl : lv_has ls 7 [(4, .int 1), (3, .ref qo), (2, .ref q1), (1, .ref q0), (0, .ref b)])
    (kk : ∀ (H : Heap) (locs : List Loc) (ls : Array Slot), va_S (fun q : Nat => s.heap.size ≤ q) s.heap H locs → lv_has ls 7 [(4, .int 1), (0, .ref b)] → W p l e room_1 s m #[Value.ref b] below meth c H locs 25 344740 Q (F0 m 1265 ls [])) : W p l e room_1 s m #[Value.ref b] below meth c H locs 22 344734 Q (F0 m 1104 ls []) := by
  have hA : ∀ q : Nat, s.heap.size ≤ q → (fun q : Nat => s.heap.size ≤ q) q := fun _ h => h
  have hbA : ¬ (fun q : Nat => s.heap.size ≤ q) b := Nat.not_le.mpr hbl
  have hK0 : va_K (dC, dI) cls9 [] s := hK.sub (tys' := []) [] rfl
  refine lv_aload_n hx hb dL_law_1104 rfl (lv_at hl 3 rfl) ?_
  refine lv_aload_n hx hb dL_law_1105 rfl (lv_at hl 4 rfl) ?_
  refine lv_iload hx hb dL_law_1106 (lv_at hl 0 rfl) ?_
  refine lv_iconst (v := 1) hx hb dL_law_1108 (by decide) ?_
  refine lv_iadd hx hb dL_law_1109 ?_
  refine lv_topi (fun v373 ev373 => ?_)
  have ev373 : v373 = nI 2 := ev373.trans (by decide)
  subst ev373
  refine va_sld hx hb hX hbl hbA hS (vp_in_nI (n := 2) (by omega) (by omega)) dL_law_1110 ?_
  refine lv_topi (fun a374 ea374 => ?_)
  refine lv_aload_n hx hb dL_law_1111 rfl (lv_at hl 4 rfl) ?_
  refine lv_iload hx hb dL_law_1112 (lv_at hl 0 rfl) ?_
  refine lv_iconst (v := 2) hx hb dL_law_1114 (by decide) ?_
  refine lv_iadd hx hb dL_law_1115 ?_
  refine lv_topi (fun v375 ev375 => ?_)
  have ev375 : v375 = nI 3 := ev375.trans (by decide)
  subst ev375
  refine va_sld hx hb hX hbl hbA hS (vp_in_nI (n := 3) (by omega) (by omega)) dL_law_1116 ?_
  refine lv_topi (fun a376 ea376 => ?_)
  refine lv_aload_n hx hb dL_law_1117 rfl (lv_at hl 4 rfl) ?_
  refine lv_iload hx hb dL_law_1118 (lv_at hl 0 rfl) ?_
  refine lv_iconst (v := 3) hx hb dL_law_1120 (by decide) ?_
  refine lv_iadd hx hb dL_law_1121 ?_
  refine lv_topi (fun v377 ev377 => ?_)
  have ev377 : v377 = nI 4 := ev377.trans (by decide)
  subst ev377
  refine va_sld hx hb hX hbl hbA hS (vp_in_nI (n := 4) (by omega) (by omega)) dL_law_1122 ?_
  refine lv_topi (fun a378 ea378 => ?_)
  refine lv_aload_n hx hb dL_law_1123 rfl (lv_at hl 1 rfl) ?_
  have hPg := hP.sub (ws' := [(q0, .inr (0, [.int le, .ref qp, .int 0, .null]))]) [0] rfl
  refine va_calli (th_runS (As := [.ref q0, .int a374, .int a376, .int a378, .ref qo]) (rest := []) ⟨hx, hb, hml, hown, hk⟩ (cL_at l htr dC dI q0 le qp sa _ a374 a376 a378 qo) (th_cs 5 hk (gS k243 k244 k156 k245) rfl rfl rfl (by decide +kernel) ⟨Nat.le_of_ble_eq_true rfl, Nat.le_of_ble_eq_true rfl⟩) ⟨gUs, fun U hU hW => ⟨rfl, by rw [hU], gUat hPg hK0 hth hstr hS U hU hW⟩⟩ rfl rfl hl.1 rfl (lv_room (Nat.le_of_ble_eq_true rfl)) dL_law_1124 ⟨Nat.le_of_ble_eq_true rfl, Nat.le_of_ble_eq_true rfl⟩) hS (fun q h1 h2 => absurd h1 (Nat.not_lt.mpr h2)) (fun q h => Nat.le_trans hS.1 h) (fun r379 u t H1 locs ht hvm hw hB hz1 hk1 hS => ?_)
  subst hw
  have hP : va_P (dC, dI) cls9 [(q0, .inr (0, [.int le, .ref qp, .int 0, .null])), (qp, .inl (cA, 60, .inr (.inr (.inr (.inr (fun _ => none)))))), (q1, .inr (2, .int 0 :: .int lm :: .int 0 :: .ref qn :: fs)), (qn, .inl (cN, 290816, .inl f)), (qo, .inl (cO, 1, .inr (.inl fo)))] H1 := hP.kept (fun j x hx => hk1 x.1 ((hP j x hx).lt) (Nat.not_le.mpr ((hP j x hx).lt)))
  generalize H1 = H at hP hS ⊢
  refine lv_istore (lv' := [(5, .int 1), (4, .int 1), (3, .ref qo), (2, .ref q1), (1, .ref q0), (0, .ref b)]) hx hb dL_law_1127 hl (by decide) rfl (fun ls hl => ?_)
  refine lv_aload_n hx hb dL_law_1129 rfl (lv_at hl 3 rfl) ?_
  refine lv_aload_n hx hb dL_law_1130 rfl (lv_at hl 5 rfl) ?_
  refine lv_iload hx hb dL_law_1131 (lv_at hl 1 rfl) ?_
  refine lv_iconst (v := 1) hx hb dL_law_1133 (by decide) ?_
  refine lv_iadd hx hb dL_law_1134 ?_
  refine lv_topi (fun v380 ev380 => ?_)
  have ev380 : v380 = nI 2 := ev380.trans (by decide)
  subst ev380
  refine va_sld hx hb hX hbl hbA hS (vp_in_nI (n := 2) (by omega) (by omega)) dL_law_1135 ?_
  refine lv_topi (fun a381 ea381 => ?_)
  refine lv_aload_n hx hb dL_law_1136 rfl (lv_at hl 5 rfl) ?_
  refine lv_iload hx hb dL_law_1137 (lv_at hl 1 rfl) ?_
  refine lv_iconst (v := 2) hx hb dL_law_1139 (by decide) ?_
  refine lv_iadd hx hb dL_law_1140 ?_
  refine lv_topi (fun v382 ev382 => ?_)
  have ev382 : v382 = nI 3 := ev382.trans (by decide)
  subst ev382
  refine va_sld hx hb hX hbl hbA hS (vp_in_nI (n := 3) (by omega) (by omega)) dL_law_1141 ?_
  refine lv_topi (fun a383 ea383 => ?_)
  refine lv_aload_n hx hb dL_law_1142 rfl (lv_at hl 5 rfl) ?_
  refine lv_iload hx hb dL_law_1143 (lv_at hl 1 rfl) ?_
  refine lv_iconst (v := 3) hx hb dL_law_1145 (by decide) ?_
  refine lv_iadd hx hb dL_law_1146 ?_
  refine lv_topi (fun v384 ev384 => ?_)
  have ev384 : v384 = nI 4 := ev384.trans (by decide)
  subst ev384
  refine va_sld hx hb hX hbl hbA hS (vp_in_nI (n := 4) (by omega) (by omega)) dL_law_1147 ?_
  refine lv_topi (fun a385 ea385 => ?_)
  have hPm := hP.sub (ws' := mW q1 0 lm 0 (.ref qn :: fs)) [2] rfl
  have hq1 : s.heap.size ≤ q1 := hD.2 2 _ rfl
  refine va_calli (va_runV (As := [.int a381, .int a383, .int a385]) (rest := []) ⟨hx, hb, hml, hown, hk⟩ (cM_at l dC dI q1 0 lm (.ref qn :: fs) a381 a383 a385) (cwV 3 hk (gV k246 k247 k248 k71 k249) rfl rfl rfl (by decide +kernel) ⟨Nat.le_of_ble_eq_true rfl, Nat.le_of_ble_eq_true rfl⟩) ⟨mB, va_recv hK0 hPm (ci := 2) (q0 := 0) rfl rfl, mP hPm hK0⟩ rfl rfl hl.1 rfl (lv_room (Nat.le_of_ble_eq_true rfl)) dL_law_1148 ⟨Nat.le_of_ble_eq_true rfl, Nat.le_of_ble_eq_true rfl⟩) hS (fun q _ h => by rw [h]; exact hq1) (fun q h => by rw [h]; exact hq1) (fun r386 u t H1 locs ht hvm hw hB hz1 hk1 hS => ?_)
  subst hw
  obtain ⟨hPm, hKm⟩ := hB
  rw [ht] at hPm
  generalize H1 = H at hPm hS ⊢
  refine lv_istore (lv' := [(6, .int 0), (5, .int 1), (4, .int 1), (3, .ref qo), (2, .ref q1), (1, .ref q0), (0, .ref b)]) hx hb dL_law_1151 hl (by decide) rfl (fun ls hl => ?_)
  refine lv_aload_n hx hb dL_law_1153 rfl (lv_at hl 4 rfl) ?_
  refine vp_callSi (W.runV (As := []) (rest := []) ⟨hx, hb, hml, hown, hk⟩ (cM_thrown9 l dC dI q1 1 lm 0 (.ref qn :: fs) _) (cwV 0 hk (gV k162 k163 k164 k71 k165) rfl rfl rfl (by decide +kernel) ⟨Nat.le_of_ble_eq_true rfl, Nat.le_of_ble_eq_true rfl⟩) ⟨nBl, va_recv hK0 hPm (ci := 2) (q0 := 0) rfl rfl, nPr hPm hK0 (mD (h0 := q1))⟩ rfl rfl hl.1 rfl (lv_room (Nat.le_of_ble_eq_true rfl)) dL_law_1154 ⟨Nat.le_of_ble_eq_true rfl, Nat.le_of_ble_eq_true rfl⟩) (fun r387 hw => ?_)
  subst hw
  refine lv_iload hx hb dL_law_1157 (lv_at hl 1 rfl) ?_
  refine lv_icmp_eq (tgt := 1164) hx hb dL_law_1159 (by decide) (fun c388 => ?_) (fun c388 => ?_)
  · skip
    refine lv_iload hx hb dL_law_1164 (lv_at hl 1 rfl) ?_
    refine lv_if_ne (tgt := 1181) hx hb dL_law_1166 (by decide) (fun c389 => ?_) (fun c389 => ?_)
    · skip
      refine lv_goto (tgt := 1265) hx hb dL_law_1181 (by decide) ?_
      refine W.widen (k := 25) (n := 344740) (Nat.le_of_ble_eq_true rfl) (Nat.le_of_ble_eq_true rfl) ?_
      exact kk _ _ ls hS (lv_sub hl [2, 6] rfl)
    · skip
      exact absurd c389 (by decide)
  · skip
    exact absurd c388 (by decide)
set_option maxHeartbeats 4000000 in
set_option maxRecDepth 100000 in
theorem la_14 {p : Program} {l : Launch} {e : Env} {s : State} {m : MethodId} {below : List Frame} {meth : Method} {c : Code} {b L : Nat} {xs : Nat → Int32} {Q : State → Prop} {dC : Nat → ClassId} {dI : Nat → Nat → Nat} {q0 qp q1 qn qo sa : Nat} {le lm : Int32} {cA cN cO : ClassId} {fo : Nat → Int64} {f : Nat → Int32} {fs : List Value} {H : Heap} {locs : List Loc} {ls : Array Slot}
    (htr : l.stackTraces = false) (hL8 : L = 8) (hx : p.tables.exec = Jvm.exec) (hb : c.code = bL_law) (hml : c.maxLocals = 7) (hown : s.vm.findClass "ImageGcdsLaw" = some m.cls) (hX : va_X b L xs s s.heap) (hbl : b < s.heap.size) (hk : ∀ w ∈ W0, w.before #[Value.ref b] s = true) (hK : va_K (dC, dI) cls9 [(cA, .object "ImageGcds$Poly"), (cN, .int), (cO, .long)] s) (hth : th_S s) (hstr : vk_R "ImageGcds" 139 "no such polynomial" sa s)
    (hP : va_P (dC, dI) cls9 [(q0, .inr (0, [.int le, .ref qp, .int 0, .null])), (qp, .inl (cA, 60, .inr (.inr (.inr (.inr (fun _ => none)))))), (q1, .inr (2, .int 0 :: .int lm :: .int 0 :: .ref qn :: fs)), (qn, .inl (cN, 290816, .inl f)), (qo, .inl (cO, 1, .inr (.inl fo)))] H) (hD : va_D (fun q : Nat => s.heap.size ≤ q) [(q0, .inr (0, [.int le, .ref qp, .int 0, .null])), (qp, .inl (cA, 60, .inr (.inr (.inr (.inr (fun _ => none)))))), (q1, .inr (2, .int 0 :: .int lm :: .int 0 :: .ref qn :: fs)), (qn, .inl (cN, 290816, .inl f)), (qo, .inl (cO, 1, .inr (.inl fo)))]) (hS : va_S (fun q : Nat => s.heap.size ≤ q) s.heap H locs) (hl : lv_has ls 7 [(4, .int 1), (3, .ref qo), (2, .ref q1), (1, .ref q0), (0, .ref b)])
    (kk : ∀ (H : Heap) (locs : List Loc) (ls : Array Slot), va_S (fun q : Nat => s.heap.size ≤ q) s.heap H locs → lv_has ls 7 [(4, .int 1), (0, .ref b)] → W p l e room_1 s m #[Value.ref b] below meth c H locs 25 344740 Q (F0 m 1265 ls [])) : W p l e room_1 s m #[Value.ref b] below meth c H locs 22 344734 Q (F0 m 1184 ls []) := by
  have hA : ∀ q : Nat, s.heap.size ≤ q → (fun q : Nat => s.heap.size ≤ q) q := fun _ h => h
  have hbA : ¬ (fun q : Nat => s.heap.size ≤ q) b := Nat.not_le.mpr hbl
  have hK0 : va_K (dC, dI) cls9 [] s := hK.sub (tys' := []) [] rfl
  refine lv_aload_n hx hb dL_law_1184 rfl (lv_at hl 3 rfl) ?_
  refine lv_aload_n hx hb dL_law_1185 rfl (lv_at hl 4 rfl) ?_
  refine lv_iload hx hb dL_law_1186 (lv_at hl 0 rfl) ?_
  refine lv_iconst (v := 1) hx hb dL_law_1188 (by decide) ?_
  refine lv_iadd hx hb dL_law_1189 ?_
  refine lv_topi (fun v390 ev390 => ?_)
  have ev390 : v390 = nI 2 := ev390.trans (by decide)
  subst ev390
  refine va_sld hx hb hX hbl hbA hS (vp_in_nI (n := 2) (by omega) (by omega)) dL_law_1190 ?_
  refine lv_topi (fun a391 ea391 => ?_)
  refine lv_aload_n hx hb dL_law_1191 rfl (lv_at hl 4 rfl) ?_
  refine lv_iload hx hb dL_law_1192 (lv_at hl 0 rfl) ?_
  refine lv_iconst (v := 2) hx hb dL_law_1194 (by decide) ?_
  refine lv_iadd hx hb dL_law_1195 ?_
  refine lv_topi (fun v392 ev392 => ?_)
  have ev392 : v392 = nI 3 := ev392.trans (by decide)
  subst ev392
  refine va_sld hx hb hX hbl hbA hS (vp_in_nI (n := 3) (by omega) (by omega)) dL_law_1196 ?_
  refine lv_topi (fun a393 ea393 => ?_)
  refine lv_aload_n hx hb dL_law_1197 rfl (lv_at hl 1 rfl) ?_
  have hPg := hP.sub (ws' := [(q0, .inr (0, [.int le, .ref qp, .int 0, .null]))]) [0] rfl
  refine va_calli (th_runS (As := [.ref q0, .int a391, .int a393, .ref qo]) (rest := []) ⟨hx, hb, hml, hown, hk⟩ (cL_degree l htr dC dI q0 le qp sa _ a391 a393 qo) (th_cs 4 hk (gS k250 k251 k156 k252) rfl rfl rfl (by decide +kernel) ⟨Nat.le_of_ble_eq_true rfl, Nat.le_of_ble_eq_true rfl⟩) ⟨gUs, fun U hU hW => ⟨rfl, by rw [hU], gUat hPg hK0 hth hstr hS U hU hW⟩⟩ rfl rfl hl.1 rfl (lv_room (Nat.le_of_ble_eq_true rfl)) dL_law_1198 ⟨Nat.le_of_ble_eq_true rfl, Nat.le_of_ble_eq_true rfl⟩) hS (fun q h1 h2 => absurd h1 (Nat.not_lt.mpr h2)) (fun q h => Nat.le_trans hS.1 h) (fun r394 u t H1 locs ht hvm hw hB hz1 hk1 hS => ?_)
  subst hw
  have hP : va_P (dC, dI) cls9 [(q0, .inr (0, [.int le, .ref qp, .int 0, .null])), (qp, .inl (cA, 60, .inr (.inr (.inr (.inr (fun _ => none)))))), (q1, .inr (2, .int 0 :: .int lm :: .int 0 :: .ref qn :: fs)), (qn, .inl (cN, 290816, .inl f)), (qo, .inl (cO, 1, .inr (.inl fo)))] H1 := hP.kept (fun j x hx => hk1 x.1 ((hP j x hx).lt) (Nat.not_le.mpr ((hP j x hx).lt)))
  generalize H1 = H at hP hS ⊢
  refine lv_istore (lv' := [(5, .int 1), (4, .int 1), (3, .ref qo), (2, .ref q1), (1, .ref q0), (0, .ref b)]) hx hb dL_law_1201 hl (by decide) rfl (fun ls hl => ?_)
  refine lv_aload_n hx hb dL_law_1203 rfl (lv_at hl 3 rfl) ?_
  refine lv_aload_n hx hb dL_law_1204 rfl (lv_at hl 5 rfl) ?_
  refine lv_iload hx hb dL_law_1205 (lv_at hl 1 rfl) ?_
  refine lv_iconst (v := 1) hx hb dL_law_1207 (by decide) ?_
  refine lv_iadd hx hb dL_law_1208 ?_
  refine lv_topi (fun v395 ev395 => ?_)
  have ev395 : v395 = nI 2 := ev395.trans (by decide)
  subst ev395
  refine va_sld hx hb hX hbl hbA hS (vp_in_nI (n := 2) (by omega) (by omega)) dL_law_1209 ?_
  refine lv_topi (fun a396 ea396 => ?_)
  refine lv_aload_n hx hb dL_law_1210 rfl (lv_at hl 5 rfl) ?_
  refine lv_iload hx hb dL_law_1211 (lv_at hl 1 rfl) ?_
  refine lv_iconst (v := 2) hx hb dL_law_1213 (by decide) ?_
  refine lv_iadd hx hb dL_law_1214 ?_
  refine lv_topi (fun v397 ev397 => ?_)
  have ev397 : v397 = nI 3 := ev397.trans (by decide)
  subst ev397
  refine va_sld hx hb hX hbl hbA hS (vp_in_nI (n := 3) (by omega) (by omega)) dL_law_1215 ?_
  refine lv_topi (fun a398 ea398 => ?_)
  have hPm := hP.sub (ws' := mW q1 0 lm 0 (.ref qn :: fs)) [2] rfl
  have hq1 : s.heap.size ≤ q1 := hD.2 2 _ rfl
  refine va_calli (va_runV (As := [.int a396, .int a398]) (rest := []) ⟨hx, hb, hml, hown, hk⟩ (cM_degree l dC dI q1 0 lm (.ref qn :: fs) a396 a398) (cwV 2 hk (gV k253 k254 k255 k71 k256) rfl rfl rfl (by decide +kernel) ⟨Nat.le_of_ble_eq_true rfl, Nat.le_of_ble_eq_true rfl⟩) ⟨mB, va_recv hK0 hPm (ci := 2) (q0 := 0) rfl rfl, mP hPm hK0⟩ rfl rfl hl.1 rfl (lv_room (Nat.le_of_ble_eq_true rfl)) dL_law_1216 ⟨Nat.le_of_ble_eq_true rfl, Nat.le_of_ble_eq_true rfl⟩) hS (fun q _ h => by rw [h]; exact hq1) (fun q h => by rw [h]; exact hq1) (fun r399 u t H1 locs ht hvm hw hB hz1 hk1 hS => ?_)
  subst hw
  obtain ⟨hPm, hKm⟩ := hB
  rw [ht] at hPm
  generalize H1 = H at hPm hS ⊢
  refine lv_istore (lv' := [(6, .int 0), (5, .int 1), (4, .int 1), (3, .ref qo), (2, .ref q1), (1, .ref q0), (0, .ref b)]) hx hb dL_law_1219 hl (by decide) rfl (fun ls hl => ?_)
  refine lv_aload_n hx hb dL_law_1221 rfl (lv_at hl 4 rfl) ?_
  refine vp_callSi (W.runV (As := []) (rest := []) ⟨hx, hb, hml, hown, hk⟩ (cM_thrown9 l dC dI q1 1 lm 0 (.ref qn :: fs) _) (cwV 0 hk (gV k162 k163 k164 k71 k165) rfl rfl rfl (by decide +kernel) ⟨Nat.le_of_ble_eq_true rfl, Nat.le_of_ble_eq_true rfl⟩) ⟨nBl, va_recv hK0 hPm (ci := 2) (q0 := 0) rfl rfl, nPr hPm hK0 (mD (h0 := q1))⟩ rfl rfl hl.1 rfl (lv_room (Nat.le_of_ble_eq_true rfl)) dL_law_1222 ⟨Nat.le_of_ble_eq_true rfl, Nat.le_of_ble_eq_true rfl⟩) (fun r400 hw => ?_)
  subst hw
  refine lv_iload hx hb dL_law_1225 (lv_at hl 1 rfl) ?_
  refine lv_icmp_eq (tgt := 1232) hx hb dL_law_1227 (by decide) (fun c401 => ?_) (fun c401 => ?_)
  · skip
    refine lv_iload hx hb dL_law_1232 (lv_at hl 1 rfl) ?_
    refine lv_if_ne (tgt := 1249) hx hb dL_law_1234 (by decide) (fun c402 => ?_) (fun c402 => ?_)
    · skip
      refine lv_goto (tgt := 1265) hx hb dL_law_1249 (by decide) ?_
      refine W.widen (k := 25) (n := 344740) (Nat.le_of_ble_eq_true rfl) (Nat.le_of_ble_eq_true rfl) ?_
      exact kk _ _ ls hS (lv_sub hl [2, 6] rfl)
    · skip
      exact absurd c402 (by decide)
  · skip
    exact absurd c401 (by decide)
set_option maxHeartbeats 4000000 in
set_option maxRecDepth 100000 in
theorem la_15 {p : Program} {l : Launch} {e : Env} {s : State} {m : MethodId} {below : List Frame} {meth : Method} {c : Code} {b L : Nat} {xs : Nat → Int32} {Q : State → Prop} {dC : Nat → ClassId} {dI : Nat → Nat → Nat} {q0 qp q1 qn qo sa : Nat} {le lm : Int32} {cA cN cO : ClassId} {fo : Nat → Int64} {f : Nat → Int32} {fs : List Value} {H : Heap} {locs : List Loc} {ls : Array Slot}
    (htr : l.stackTraces = false) (hL8 : L = 8) (hx : p.tables.exec = Jvm.exec) (hb : c.code = bL_law) (hml : c.maxLocals = 7) (hown : s.vm.findClass "ImageGcdsLaw" = some m.cls) (hX : va_X b L xs s s.heap) (hbl : b < s.heap.size) (hk : ∀ w ∈ W0, w.before #[Value.ref b] s = true) (hK : va_K (dC, dI) cls9 [(cA, .object "ImageGcds$Poly"), (cN, .int), (cO, .long)] s) (hth : th_S s) (hstr : vk_R "ImageGcds" 139 "no such polynomial" sa s)
    (hP : va_P (dC, dI) cls9 [(q0, .inr (0, [.int le, .ref qp, .int 0, .null])), (qp, .inl (cA, 60, .inr (.inr (.inr (.inr (fun _ => none)))))), (q1, .inr (2, .int 0 :: .int lm :: .int 0 :: .ref qn :: fs)), (qn, .inl (cN, 290816, .inl f)), (qo, .inl (cO, 1, .inr (.inl fo)))] H) (hD : va_D (fun q : Nat => s.heap.size ≤ q) [(q0, .inr (0, [.int le, .ref qp, .int 0, .null])), (qp, .inl (cA, 60, .inr (.inr (.inr (.inr (fun _ => none)))))), (q1, .inr (2, .int 0 :: .int lm :: .int 0 :: .ref qn :: fs)), (qn, .inl (cN, 290816, .inl f)), (qo, .inl (cO, 1, .inr (.inl fo)))]) (hS : va_S (fun q : Nat => s.heap.size ≤ q) s.heap H locs) (hl : lv_has ls 7 [(4, .int 1), (3, .ref qo), (2, .ref q1), (1, .ref q0), (0, .ref b)])
    (kk : ∀ (H : Heap) (locs : List Loc) (ls : Array Slot), va_S (fun q : Nat => s.heap.size ≤ q) s.heap H locs → lv_has ls 7 [(4, .int 1), (0, .ref b)] → W p l e room_1 s m #[Value.ref b] below meth c H locs 25 344740 Q (F0 m 1265 ls [])) : W p l e room_1 s m #[Value.ref b] below meth c H locs 22 344734 Q (F0 m 1252 ls []) := by
  have hA : ∀ q : Nat, s.heap.size ≤ q → (fun q : Nat => s.heap.size ≤ q) q := fun _ h => h
  have hbA : ¬ (fun q : Nat => s.heap.size ≤ q) b := Nat.not_le.mpr hbl
  have hK0 : va_K (dC, dI) cls9 [] s := hK.sub (tys' := []) [] rfl
  have hPg := hP.sub (ws' := [(q0, .inr (0, [.int le, .ref qp, .int 0, .null]))]) [0] rfl
  refine lv_aload_n hx hb dL_law_1252 rfl (lv_at hl 3 rfl) ?_
  refine vp_callSi (W.runV (As := []) (rest := []) ⟨hx, hb, hml, hown, hk⟩ (cG_count l dC dI q0 le qp sa) (cwV 0 hk (gV k257 k258 k259 k6 k260) rfl rfl rfl (by decide +kernel) ⟨Nat.le_of_ble_eq_true rfl, Nat.le_of_ble_eq_true rfl⟩) ⟨gU.bl, va_recv hK0 hPg (ci := 0) (q0 := 0) rfl rfl, fun U hU hW => ⟨rfl, gUat hPg hK0 hth hstr hS U hU hW⟩⟩ rfl rfl hl.1 rfl (lv_room (Nat.le_of_ble_eq_true rfl)) dL_law_1253 ⟨Nat.le_of_ble_eq_true rfl, Nat.le_of_ble_eq_true rfl⟩) (fun r1 hw => ?_)
  subst hw
  refine lv_aload_n hx hb dL_law_1256 rfl (lv_at hl 2 rfl) ?_
  have hPm := hP.sub (ws' := mW q1 0 lm 0 (.ref qn :: fs)) [2] rfl
  have hq1 : s.heap.size ≤ q1 := hD.2 2 _ rfl
  refine va_calli (va_runV (As := []) (rest := [.int 0]) ⟨hx, hb, hml, hown, hk⟩ (cM_count l dC dI q1 0 lm (.ref qn :: fs)) (cwV 0 hk (gV k261 k262 k263 k71 k264) rfl rfl rfl (by decide +kernel) ⟨Nat.le_of_ble_eq_true rfl, Nat.le_of_ble_eq_true rfl⟩) ⟨mB, va_recv hK0 hPm (ci := 2) (q0 := 0) rfl rfl, mP hPm hK0⟩ rfl rfl hl.1 rfl (lv_room (Nat.le_of_ble_eq_true rfl)) dL_law_1257 ⟨Nat.le_of_ble_eq_true rfl, Nat.le_of_ble_eq_true rfl⟩) hS (fun q _ h => by rw [h]; exact hq1) (fun q h => by rw [h]; exact hq1) (fun r2 u t H1 locs ht hvm hw hB hz1 hk1 hS => ?_)
  subst hw
  refine lv_icmp_eq (tgt := 1265) hx hb dL_law_1260 (by decide) (fun c1 => ?_) (fun c1 => absurd rfl c1)
  refine W.widen (k := 25) (n := 344740) (Nat.le_of_ble_eq_true rfl) (Nat.le_of_ble_eq_true rfl) ?_
  exact kk _ _ ls hS (lv_sub hl [0, 4] rfl)
set_option maxHeartbeats 4000000 in
set_option maxRecDepth 100000 in
theorem la_0 {p : Program} {l : Launch} {e : Env} {s : State} {m : MethodId} {below : List Frame} {meth : Method} {c : Code} {b L : Nat} {xs : Nat → Int32} {Q : State → Prop} {dC : Nat → ClassId} {dI : Nat → Nat → Nat} {q0 qp q1 qn qo sa : Nat} {le lm : Int32} {cA cN cO : ClassId} {fo : Nat → Int64} {f : Nat → Int32} {fs : List Value} {H : Heap} {locs : List Loc} {ls : Array Slot}
    (htr : l.stackTraces = false) (hL8 : L = 8) (hx : p.tables.exec = Jvm.exec) (hb : c.code = bL_law) (hml : c.maxLocals = 7) (hown : s.vm.findClass "ImageGcdsLaw" = some m.cls) (hX : va_X b L xs s s.heap) (hbl : b < s.heap.size) (hk : ∀ w ∈ W0, w.before #[Value.ref b] s = true) (hK : va_K (dC, dI) cls9 [(cA, .object "ImageGcds$Poly"), (cN, .int), (cO, .long)] s) (hth : th_S s) (hstr : vk_R "ImageGcds" 139 "no such polynomial" sa s)
    (hP : va_P (dC, dI) cls9 [(q0, .inr (0, [.int le, .ref qp, .int 0, .null])), (qp, .inl (cA, 60, .inr (.inr (.inr (.inr (fun _ => none)))))), (q1, .inr (2, .int 0 :: .int lm :: .int 0 :: .ref qn :: fs)), (qn, .inl (cN, 290816, .inl f)), (qo, .inl (cO, 1, .inr (.inl fo)))] H) (hD : va_D (fun q : Nat => s.heap.size ≤ q) [(q0, .inr (0, [.int le, .ref qp, .int 0, .null])), (qp, .inl (cA, 60, .inr (.inr (.inr (.inr (fun _ => none)))))), (q1, .inr (2, .int 0 :: .int lm :: .int 0 :: .ref qn :: fs)), (qn, .inl (cN, 290816, .inl f)), (qo, .inl (cO, 1, .inr (.inl fo)))]) (hS : va_S (fun q : Nat => s.heap.size ≤ q) s.heap H locs) (hl : lv_has ls 7 [(4, .int 1), (3, .ref qo), (2, .ref q1), (1, .ref q0), (0, .ref b)])
    (kk : ∀ (H : Heap) (locs : List Loc) (ls : Array Slot), va_S (fun q : Nat => s.heap.size ≤ q) s.heap H locs → lv_has ls 7 [(4, .int 1), (0, .ref b)] → W p l e room_1 s m #[Value.ref b] below meth c H locs 25 344740 Q (F0 m 1265 ls [])) : W p l e room_1 s m #[Value.ref b] below meth c H locs 22 344734 Q (F0 m 128 ls []) := by
  have hA : ∀ q : Nat, s.heap.size ≤ q → (fun q : Nat => s.heap.size ≤ q) q := fun _ h => h
  have hbA : ¬ (fun q : Nat => s.heap.size ≤ q) b := Nat.not_le.mpr hbl
  have hK0 : va_K (dC, dI) cls9 [] s := hK.sub (tys' := []) [] rfl
  refine lv_aload_n hx hb dL_law_128 rfl (lv_at hl 3 rfl) ?_
  refine lv_aload_n hx hb dL_law_129 rfl (lv_at hl 1 rfl) ?_
  have hP9 := hP.sub (ws' := [(q0, .inr (0, [.int le, .ref qp, .int 0, .null])), (qp, .inl (cA, 60, .inr (.inr (.inr (.inr (fun _ => none)))))), (qo, .inl (cO, 1, .inr (.inl fo)))]) [0, 1, 4] rfl
  have hD9 := hD.sub (ws' := [(q0, .inr (0, [.int le, .ref qp, .int 0, .null])), (qp, .inl (cA, 60, .inr (.inr (.inr (.inr (fun _ => none)))))), (qo, .inl (cO, 1, .inr (.inl fo)))]) [0, 1, 4] (by decide) rfl
  have hK9 := hK.sub (tys' := [(cA, .object "ImageGcds$Poly"), (cO, .long)]) [0, 2] rfl
  have hFc := va_free (wc := [(q0, .inr (0, [.int le, .ref qp, .int 0, .null])), (qp, .inl (cA, 60, .inr (.inr (.inr (.inr (fun _ => none)))))), (qo, .inl (cO, 1, .inr (.inl fo)))]) hD hS hA [0, 1, 4] rfl
  refine va_calli (th_runS (As := [.ref q0, .ref qo]) (rest := []) ⟨hx, hb, hml, hown, hk⟩ (cL_poly l dC dI q0 le qp cA qo cO fo _) (th_cs 2 hk (gS k265 k266 k156 k267) rfl rfl rfl (by decide +kernel) ⟨Nat.le_of_ble_eq_true rfl, Nat.le_of_ble_eq_true rfl⟩) ⟨nBl, nPr hP9 hK9 hD9⟩ rfl rfl hl.1 rfl (lv_room (Nat.le_of_ble_eq_true rfl)) dL_law_130 ⟨Nat.le_of_ble_eq_true rfl, Nat.le_of_ble_eq_true rfl⟩) hS (fun q _ h => hFc q h) hFc (fun r1 u t H1 locs ht hvm hw hB hz1 hk1 hS => ?_)
  subst hw
  obtain ⟨g, hg0, hP1, hD1⟩ := hB
  rw [ht] at hP1
  obtain ⟨hP, hD⟩ := va_join (wr := mN q1 0 lm 0 qn fs cN f) (w1 := [(qo, .inl (cO, 1, .inr (.inl g)))]) hP hD [0, 1, 4] [2, 3] rfl rfl (by decide) (by decide) hk1 hFc hP1 hD1
  generalize H1 = H at hP hS ⊢
  have hP : va_P (dC, dI) cls9 [(q1, .inr (2, .int 0 :: .int lm :: .int 0 :: .ref qn :: fs)), (qn, .inl (cN, 290816, .inl f)), (qo, .inl (cO, 1, .inr (.inl g)))] H := hP
  have hD : va_D (fun q : Nat => s.heap.size ≤ q) [(q1, .inr (2, .int 0 :: .int lm :: .int 0 :: .ref qn :: fs)), (qn, .inl (cN, 290816, .inl f)), (qo, .inl (cO, 1, .inr (.inl g)))] := hD
  refine lv_istore (lv' := [(5, .int 0), (4, .int 1), (3, .ref qo), (2, .ref q1), (1, .ref q0), (0, .ref b)]) hx hb dL_law_133 hl (by decide) rfl (fun ls hl => ?_)
  refine lv_aload_n hx hb dL_law_135 rfl (lv_at hl 3 rfl) ?_
  have hPm := hP.sub (ws' := mN q1 0 lm 0 qn fs cN f) [0, 1] rfl
  have hDm := hD.sub (ws' := mN q1 0 lm 0 qn fs cN f) [0, 1] (by decide) rfl
  have hKm := hK.sub (tys' := [(cN, .int)]) [1] rfl
  have hFc := va_free (wc := mN q1 0 lm 0 qn fs cN f) hD hS hA [0, 1] rfl
  refine va_calli (va_runV (As := []) (rest := []) ⟨hx, hb, hml, hown, hk⟩ (cM_poly l dC dI q1 0 lm qn fs cN f _) (cwV 0 hk (gV k268 k269 k270 k71 k271) rfl rfl rfl (by decide +kernel) ⟨Nat.le_of_ble_eq_true rfl, Nat.le_of_ble_eq_true rfl⟩) ⟨nBl, va_recv hKm hPm (ci := 2) (q0 := 0) rfl rfl, nPr hPm hKm hDm⟩ rfl rfl hl.1 rfl (lv_room (Nat.le_of_ble_eq_true rfl)) dL_law_136 ⟨Nat.le_of_ble_eq_true rfl, Nat.le_of_ble_eq_true rfl⟩) hS (fun q _ h => hFc q h) hFc (fun r2 u t H1 locs ht hvm hw hB hz1 hk1 hS => ?_)
  subst hw
  obtain ⟨f3, hP1, hK1, hD1⟩ := hB
  rw [ht] at hP1
  obtain ⟨hP, hD⟩ := va_join (wr := [(qo, .inl (cO, 1, .inr (.inl g)))]) (w1 := mN q1 0 lm 1 qn fs cN f3) hP hD [0, 1] [2] rfl rfl (by decide) (by decide) hk1 hFc hP1 hD1
  generalize H1 = H at hP hS ⊢
  have hP : va_P (dC, dI) cls9 [(qo, .inl (cO, 1, .inr (.inl g))), (q1, .inr (2, .int 0 :: .int lm :: .int 1 :: .ref qn :: fs)), (qn, .inl (cN, 290816, .inl f3))] H := hP
  have hD : va_D (fun q : Nat => s.heap.size ≤ q) [(qo, .inl (cO, 1, .inr (.inl g))), (q1, .inr (2, .int 0 :: .int lm :: .int 1 :: .ref qn :: fs)), (qn, .inl (cN, 290816, .inl f3))] := hD
  refine lv_istore (lv' := [(6, .int 0), (5, .int 0), (4, .int 1), (3, .ref qo), (2, .ref q1), (1, .ref q0), (0, .ref b)]) hx hb dL_law_139 hl (by decide) rfl (fun ls hl => ?_)
  refine lv_aload_n hx hb dL_law_141 rfl (lv_at hl 4 rfl) ?_
  have hPm := hP.sub (ws' := mW q1 0 lm 1 (.ref qn :: fs)) [1] rfl
  refine vp_callSi (W.runV (As := []) (rest := []) ⟨hx, hb, hml, hown, hk⟩ (cM_thrown9 l dC dI q1 0 lm 1 (.ref qn :: fs) _) (cwV 0 hk (gV k162 k163 k164 k71 k165) rfl rfl rfl (by decide +kernel) ⟨Nat.le_of_ble_eq_true rfl, Nat.le_of_ble_eq_true rfl⟩) ⟨nBl, va_recv hK0 hPm (ci := 2) (q0 := 0) rfl rfl, nPr hPm hK0 (mD (h0 := q1))⟩ rfl rfl hl.1 rfl (lv_room (Nat.le_of_ble_eq_true rfl)) dL_law_142 ⟨Nat.le_of_ble_eq_true rfl, Nat.le_of_ble_eq_true rfl⟩) (fun r3 hw => ?_)
  subst hw
  refine lv_iload hx hb dL_law_145 (lv_at hl 1 rfl) ?_
  refine lv_icmp_eq (tgt := 152) hx hb dL_law_147 (by decide) (fun c1 => ?_) (fun c1 => absurd rfl c1)
  refine lv_iload hx hb dL_law_152 (lv_at hl 1 rfl) ?_
  refine lv_if_ne (tgt := 169) hx hb dL_law_154 (by decide) (fun c2 => absurd rfl c2) (fun c2 => ?_)
  refine lv_aload_n hx hb dL_law_157 rfl (lv_at hl 3 rfl) ?_
  refine lv_iconst (v := 0) hx hb dL_law_158 (by decide) ?_
  have hin : vp_in 0 1 := by rw [← nI_0]; exact vp_in_nI (by decide) (by decide)
  refine va_lald hx hb hK hP 0 2 rfl rfl hin dL_law_159 ?_
  refine lv_topl (fun z ez => ?_)
  have ez : z = 0 := ez.trans hg0
  subst ez
  refine lv_iload hx hb dL_law_160 (lv_at hl 0 rfl) ?_
  refine lv_i2l (v := 0) hx hb dL_law_162 (by decide) ?_
  refine W.lcmp hx hb dL_law_163 ?_
  refine lv_if_eq (tgt := 169) hx hb dL_law_164 (by decide) (fun c3 => ?_) (fun c3 => absurd (by decide) c3)
  refine lv_goto (tgt := 1265) hx hb dL_law_169 (by decide) ?_
  refine W.widen (k := 25) (n := 344740) (Nat.le_of_ble_eq_true rfl) (Nat.le_of_ble_eq_true rfl) ?_
  exact kk _ _ ls hS (lv_sub hl [2, 6] rfl)
