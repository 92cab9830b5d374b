set_option maxHeartbeats 4000000 in
set_option maxRecDepth 100000 in
theorem lw_start8 {p : Program} {e : Env} {s : State} {m : MethodId} {below : List Frame} {meth : Method} {c : Code} (l : Launch) (htr : l.stackTraces = false) {b L : Nat} {xs : Nat → Int32} (hL : L ≤ 8) (C0 : lw_At p s m meth c b L xs) : W p l e room_1 s m #[Value.ref b] below meth c s.heap [] 0 0 (lw_Z below #[Value.ref b] s) (entryFrame m ([Value.ref b] : List Value).toArray 7) := by
  obtain ⟨hx, hb, hr, hml, hown, hts, hX, hbl, hlocks, hgv⟩ := id C0
  have hown : s.vm.findClass "ImageGcdsLaw" = some m.cls := hown
  have hb : c.code = bL_law := hb
  have hA : ∀ q : Nat, s.heap.size ≤ q → (fun q : Nat => s.heap.size ≤ q) q := fun _ h => h
  have hbA : ¬ (fun q : Nat => s.heap.size ≤ q) b := Nat.not_le.mpr hbl
  have hk : ∀ w ∈ W0, w.before #[Value.ref b] s = true := fun w h => hts w (W0t w h)
  have hflat := flat_of_before _ hgv
  have hth : th_S s := ⟨th_L.of (hts (.laysStatic Bundle.tN "UNASSIGNED_STACK" Bundle.steD) (by decide +kernel)) (hflat (.isRef (.static Bundle.tN "UNASSIGNED_STACK" Bundle.steD)) (by decide +kernel)), th_L.of (hts (.laysStatic Bundle.tN "SUPPRESSED_SENTINEL" Bundle.listD) (by decide +kernel)) (hflat (.isRef (.static Bundle.tN "SUPPRESSED_SENTINEL" Bundle.listD)) (by decide +kernel))⟩
  obtain ⟨sa, hstr⟩ : ∃ sa, vk_R "ImageGcds" 139 "no such polynomial" sa s := by
    obtain ⟨a2, c2, cA2, kA2, q1, -⟩ := Cond.exactly_spec (args := #[Value.ref b]) (first := s) (o := none) (s := s) (idx := []) (t := .string "ImageGcds" 139) (cls := "java/lang/String") (hflat (.exactly (.string "ImageGcds" 139) "java/lang/String") (by decide +kernel))
    exact ⟨a2, vk_R.of (hts (.stringRef "ImageGcds" 139 "no such polynomial") (by decide +kernel)) q1⟩
  have hAO : va_AO "ImageGcds$Poly" s := va_AO.of (hts (.arrayOver (.object "ImageGcds$Poly")) (by decide +kernel))
  obtain ⟨c0, iS0, hKn0⟩ := u_known (C := "ImageGcds") (T := TG) (N := 4) (n := 4) hk uG (hk _ k272)
  obtain ⟨c1, iS1, hKn1⟩ := u_known (C := "ImageGcds$Poly") (T := TP) (N := 3) (n := 3) hk uP (hk _ k140)
  obtain ⟨c2, iS2, hKn2⟩ := u_known (C := "ImageGcdsModel") (T := TM) (N := 25) (n := 25) hk uM (hk _ k273)
  obtain ⟨dC, dI, hKc⟩ : ∃ (dC : Nat → ClassId) (dI : Nat → Nat → Nat), ∀ (k : Nat) (q : vw_C), cls9[k]? = some q → u_Kn s q.1 q.2.1 q.2.2 (dC k) (dI k) := by
    refine ⟨fun k => if k = 0 then c0 else if k = 1 then c1 else c2, fun k => if k = 0 then iS0 else if k = 1 then iS1 else iS2, ?_⟩
    intro k q hq
    match k, hq with
    | 0, hq => cases hq; exact hKn0
    | 1, hq => cases hq; exact hKn1
    | 2, hq => cases hq; exact hKn2
    | k + 3, hq => simp [cls9] at hq
  have hS : va_S (fun q : Nat => s.heap.size ≤ q) s.heap s.heap [] := va_S.rf
  have hK : va_K (dC, dI) cls9 [] s := ⟨hKc, fun k q h => by simp at h⟩
  have hK0 := hK
  have hP : va_P (dC, dI) cls9 [] s.heap := fun k q h => by simp at h
  have hD : va_D (fun q : Nat => s.heap.size ≤ q) [] := ⟨fun i j p q h => by simp at h, fun k q h => by simp at h⟩
  have hl := lv_entry ([.ref b]) (n := 7) (Nat.le_of_ble_eq_true rfl)
  rw [lg_entry_eq]
  generalize (lg_sl ([.ref b]) ++ List.replicate (7 - (lg_sl ([.ref b])).length) Slot.unset).toArray = ls at hl ⊢
  have hl : lv_has ls 7 [(0, .ref b)] := hl
  have hXb : ∀ {av : List Value}, FrameBlind (va_Pc av (fun U => va_X b L xs U U.heap ∧ b < U.heap.size)) := fun a U g mk q => ⟨q.1, va_X.moved (u := U) (U := U.calling g mk a) (Vm.Alike.refl U.vm) q.2.1, q.2.2⟩
  refine va_new (ci := 0) (fs := [.int 0, .null, .int 0, .null]) (C := "ImageGcds") (T := TG) (N := 4) hx hb hk uG tG tG_ok hown (hk _ k274) (hk _ k272) (hk _ k6) hK hP hD hS hA rfl (fun j hj => match j, hj with | 0, _ => rfl | 1, _ => rfl | 2, _ => rfl | 3, _ => rfl | j + 4, h => absurd h (by omega)) (Nat.le_of_ble_eq_true rfl) (Nat.le_of_ble_eq_true rfl) dL_law_0 (fun q0 H hP hD hS => ?_)
  have hP : va_P (dC, dI) cls9 [(q0, .inr (0, [.int 0, .null, .int 0, .null]))] H := hP
  have hD : va_D (fun q : Nat => s.heap.size ≤ q) [(q0, .inr (0, [.int 0, .null, .int 0, .null]))] := hD
  refine lv_dup hx hb dL_law_3 rfl ?_
  refine lv_aload_n hx hb dL_law_4 rfl (lv_at hl 0 rfl) ?_
  refine lv_iconst (v := 0) hx hb dL_law_5 (by decide) ?_
  refine vp_callSi (W.runS (As := [.ref b, .int 0]) (rest := [.ref q0, .ref q0]) ⟨hx, hb, hml, hown, hk⟩ (cL_cell l b L xs (by omega)) (va_cwS 2 hk (gS k275 k276 k156 k277) rfl rfl rfl (by decide +kernel) ⟨Nat.le_of_ble_eq_true rfl, Nat.le_of_ble_eq_true rfl⟩) ⟨hXb, fun U hU hW => ⟨rfl, by rw [hU]; exact (hX.kept (hS.2.1 b hbl hbA)).moved hW.alike, by rw [hU]; exact Nat.lt_of_lt_of_le hbl hS.1⟩⟩ rfl rfl hl.1 rfl (lv_room (Nat.le_of_ble_eq_true rfl)) dL_law_6 ⟨Nat.le_of_ble_eq_true rfl, Nat.le_of_ble_eq_true rfl⟩) (fun r0 _ => ?_)
  have hPc := hP.sub (ws' := [(q0, .inr (0, [.int 0, .null, .int 0, .null]))]) [0] rfl
  have hFc := va_free (wc := [(q0, .inr (0, [.int 0, .null, .int 0, .null]))]) hD hS hA [0] rfl
  refine va_callv (va_runI (As := [.int r0]) (rest := [.ref q0]) ⟨hx, hb, hml, hown, hk⟩ (cG_init l dC dI q0 _ r0) (cwI 1 hk (gI k278) rfl rfl rfl (hk _ k6) (hk _ k279) (hk _ k280) rfl (by decide +kernel) ⟨Nat.le_of_ble_eq_true rfl, Nat.le_of_ble_eq_true rfl⟩) ⟨fun a U g mk q => ⟨q.1, q.2.1, q.2.2.1, va_K.moved (u := U) (U := U.calling g mk a) (Vm.Alike.refl U.vm) q.2.2.2.1, va_AO.moved (u := U) (U := U.calling g mk a) (Vm.Alike.refl U.vm) q.2.2.2.2⟩, fun U hU hW => ⟨rfl, by rw [hU], by rw [hU]; exact hPc, va_K.moved hW.alike hK0, va_AO.moved hW.alike hAO⟩⟩ rfl rfl hl.1 rfl (lv_room (Nat.le_of_ble_eq_true rfl)) dL_law_9 ⟨Nat.le_of_ble_eq_true rfl, Nat.le_of_ble_eq_true rfl⟩) hS (fun q _ h => hFc q h) hFc (fun u t H1 locs ht hvm hw hB hz1 hk1 hS => ?_)
  obtain ⟨le, qp, cA, hP1, hK1, hD1⟩ := hB
  rw [ht] at hP1
  have hK : va_K (dC, dI) cls9 [(cA, .object "ImageGcds$Poly")] s := va_K.moved hvm.symm hK1
  obtain ⟨hP, hD⟩ := va_join (wr := []) (w1 := [(q0, .inr (0, [.int le, .ref qp, .int 0, .null])), (qp, .inl (cA, 60, .inr (.inr (.inr (.inr (fun _ => none))))))]) hP hD [0] [] rfl rfl (by decide) (by decide) hk1 hFc hP1 hD1
  generalize H1 = H at hP hS ⊢
  have hP : va_P (dC, dI) cls9 [(q0, .inr (0, [.int le, .ref qp, .int 0, .null])), (qp, .inl (cA, 60, .inr (.inr (.inr (.inr (fun _ => none))))))] H := hP
  have hD : va_D (fun q : Nat => s.heap.size ≤ q) [(q0, .inr (0, [.int le, .ref qp, .int 0, .null])), (qp, .inl (cA, 60, .inr (.inr (.inr (.inr (fun _ => none))))))] := hD
  refine lv_astore_n (lv' := [(1, .ref q0), (0, .ref b)]) hx hb dL_law_12 rfl hl (by decide) rfl (fun ls hl => ?_)
  refine va_new (ci := 2) (fs := [.int 0, .int 0, .int 0, .null, .null, .null, .null, .null, .int 0, .int 0, .int 0, .null, .null, .null, .null, .null, .null, .null, .null, .null, .null, .null, .null, .null, .int 0]) (C := "ImageGcdsModel") (T := TM) (N := 25) hx hb hk uM tM tM_ok hown (hk _ k281) (hk _ k273) (hk _ k71) hK hP hD hS hA rfl (fun j hj => match j, hj with | 0, _ => rfl | 1, _ => rfl | 2, _ => rfl | 3, _ => rfl | 4, _ => rfl | 5, _ => rfl | 6, _ => rfl | 7, _ => rfl | 8, _ => rfl | 9, _ => rfl | 10, _ => rfl | 11, _ => rfl | 12, _ => rfl | 13, _ => rfl | 14, _ => rfl | 15, _ => rfl | 16, _ => rfl | 17, _ => rfl | 18, _ => rfl | 19, _ => rfl | 20, _ => rfl | 21, _ => rfl | 22, _ => rfl | 23, _ => rfl | 24, _ => rfl | j + 25, h => absurd h (by omega)) (Nat.le_of_ble_eq_true rfl) (Nat.le_of_ble_eq_true rfl) dL_law_13 (fun q1 H hP hD hS => ?_)
  have hP : va_P (dC, dI) cls9 [(q0, .inr (0, [.int le, .ref qp, .int 0, .null])), (qp, .inl (cA, 60, .inr (.inr (.inr (.inr (fun _ => none)))))), (q1, .inr (2, [.int 0, .int 0, .int 0, .null, .null, .null, .null, .null, .int 0, .int 0, .int 0, .null, .null, .null, .null, .null, .null, .null, .null, .null, .null, .null, .null, .null, .int 0]))] H := hP
  have hD : va_D (fun q : Nat => s.heap.size ≤ q) [(q0, .inr (0, [.int le, .ref qp, .int 0, .null])), (qp, .inl (cA, 60, .inr (.inr (.inr (.inr (fun _ => none)))))), (q1, .inr (2, [.int 0, .int 0, .int 0, .null, .null, .null, .null, .null, .int 0, .int 0, .int 0, .null, .null, .null, .null, .null, .null, .null, .null, .null, .null, .null, .null, .null, .int 0]))] := hD
  refine lv_dup hx hb dL_law_16 rfl ?_
  refine lv_aload_n hx hb dL_law_17 rfl (lv_at hl 1 rfl) ?_
  refine lv_iconst (v := 0) hx hb dL_law_18 (by decide) ?_
  refine vp_callSi (W.runS (As := [.ref b, .int 0]) (rest := [.ref q1, .ref q1]) ⟨hx, hb, hml, hown, hk⟩ (cL_cell l b L xs (by omega)) (va_cwS 2 hk (gS k275 k276 k156 k277) rfl rfl rfl (by decide +kernel) ⟨Nat.le_of_ble_eq_true rfl, Nat.le_of_ble_eq_true rfl⟩) ⟨hXb, fun U hU hW => ⟨rfl, by rw [hU]; exact (hX.kept (hS.2.1 b hbl hbA)).moved hW.alike, by rw [hU]; exact Nat.lt_of_lt_of_le hbl hS.1⟩⟩ rfl rfl hl.1 rfl (lv_room (Nat.le_of_ble_eq_true rfl)) dL_law_19 ⟨Nat.le_of_ble_eq_true rfl, Nat.le_of_ble_eq_true rfl⟩) (fun r1 _ => ?_)
  have hPc := hP.sub (ws' := [(q1, .inr (2, [.int 0, .int 0, .int 0, .null, .null, .null, .null, .null, .int 0, .int 0, .int 0, .null, .null, .null, .null, .null, .null, .null, .null, .null, .null, .null, .null, .null, .int 0]))]) [2] rfl
  have hFc := va_free (wc := [(q1, .inr (2, [.int 0, .int 0, .int 0, .null, .null, .null, .null, .null, .int 0, .int 0, .int 0, .null, .null, .null, .null, .null, .null, .null, .null, .null, .null, .null, .null, .null, .int 0]))]) hD hS hA [2] rfl
  refine va_callv (va_runI (As := [.int r1]) (rest := [.ref q1]) ⟨hx, hb, hml, hown, hk⟩ (cM_init l dC dI q1 _ r1) (cwI 1 hk (gI k282) rfl rfl rfl (hk _ k71) (hk _ k283) (hk _ k284) rfl (by decide +kernel) ⟨Nat.le_of_ble_eq_true rfl, Nat.le_of_ble_eq_true rfl⟩) ⟨fun a U g mk q => ⟨q.1, q.2.1, q.2.2.1, va_K.moved (u := U) (U := U.calling g mk a) (Vm.Alike.refl U.vm) q.2.2.2⟩, fun U hU hW => ⟨rfl, by rw [hU], by rw [hU]; exact hPc, va_K.moved hW.alike hK0⟩⟩ rfl rfl hl.1 rfl (lv_room (Nat.le_of_ble_eq_true rfl)) dL_law_22 ⟨Nat.le_of_ble_eq_true rfl, Nat.le_of_ble_eq_true rfl⟩) hS (fun q _ h => hFc q h) hFc (fun u t H1 locs ht hvm hw hB hz1 hk1 hS => ?_)
  obtain ⟨lm, qn, cN, f, fs, hP1, hK1, hD1⟩ := hB
  rw [ht] at hP1
  have hK : va_K (dC, dI) cls9 [(cA, .object "ImageGcds$Poly"), (cN, .int)] s := hK.app (va_K.moved hvm.symm hK1)
  obtain ⟨hP, hD⟩ := va_join (wr := [(q0, .inr (0, [.int le, .ref qp, .int 0, .null])), (qp, .inl (cA, 60, .inr (.inr (.inr (.inr (fun _ => none))))))]) (w1 := [(q1, .inr (2, .int 0 :: .int lm :: .int 0 :: .ref qn :: fs)), (qn, .inl (cN, 290816, .inl f))]) hP hD [2] [0, 1] rfl rfl (by decide) (by decide) hk1 hFc hP1 hD1
  generalize H1 = H at hP hS ⊢
  have hP : va_P (dC, dI) cls9 [(q0, .inr (0, [.int le, .ref qp, .int 0, .null])), (qp, .inl (cA, 60, .inr (.inr (.inr (.inr (fun _ => none)))))), (q1, .inr (2, .int 0 :: .int lm :: .int 0 :: .ref qn :: fs)), (qn, .inl (cN, 290816, .inl f))] H := hP
  have hD : va_D (fun q : Nat => s.heap.size ≤ q) [(q0, .inr (0, [.int le, .ref qp, .int 0, .null])), (qp, .inl (cA, 60, .inr (.inr (.inr (.inr (fun _ => none)))))), (q1, .inr (2, .int 0 :: .int lm :: .int 0 :: .ref qn :: fs)), (qn, .inl (cN, 290816, .inl f))] := hD
  refine lv_astore_n (lv' := [(2, .ref q1), (1, .ref q0), (0, .ref b)]) hx hb dL_law_25 rfl hl (by decide) rfl (fun ls hl => ?_)
  refine lv_iconst (v := 1) hx hb dL_law_26 (by decide) ?_
  refine va_newa (ty := .long) (atype := .long) (a0 := (1, .inr (.inl (fun _ => 0)))) (N' := 1) hx hb (hk _ k285) rfl hK hP hD hS hA (fun cA => vp_cell_l cA _ _) (by decide +kernel) (by decide +kernel) (by decide +kernel) (Nat.le_of_ble_eq_true rfl) (Nat.le_of_ble_eq_true rfl) dL_law_27 (fun qo cO H hK hP hD hS => ?_)
  have hP : va_P (dC, dI) cls9 [(q0, .inr (0, [.int le, .ref qp, .int 0, .null])), (qp, .inl (cA, 60, .inr (.inr (.inr (.inr (fun _ => none)))))), (q1, .inr (2, .int 0 :: .int lm :: .int 0 :: .ref qn :: fs)), (qn, .inl (cN, 290816, .inl f)), (qo, .inl (cO, 1, .inr (.inl (fun _ => 0))))] H := hP
  have hD : va_D (fun q : Nat => s.heap.size ≤ q) [(q0, .inr (0, [.int le, .ref qp, .int 0, .null])), (qp, .inl (cA, 60, .inr (.inr (.inr (.inr (fun _ => none)))))), (q1, .inr (2, .int 0 :: .int lm :: .int 0 :: .ref qn :: fs)), (qn, .inl (cN, 290816, .inl f)), (qo, .inl (cO, 1, .inr (.inl (fun _ => 0))))] := hD
  have hK : va_K (dC, dI) cls9 [(cA, .object "ImageGcds$Poly"), (cN, .int), (cO, .long)] s := hK
  refine lv_astore_n (lv' := [(3, .ref qo), (2, .ref q1), (1, .ref q0), (0, .ref b)]) hx hb dL_law_29 rfl hl (by decide) rfl (fun ls hl => ?_)
  refine lv_iconst (v := 1) hx hb dL_law_30 (by decide) ?_
  refine lv_istore (lv' := [(4, .int 1), (3, .ref qo), (2, .ref q1), (1, .ref q0), (0, .ref b)]) hx hb dL_law_31 hl (by decide) rfl (fun ls hl => ?_)
  refine W.widen (k := 22) (n := 344734) (Nat.le_of_ble_eq_true rfl) (Nat.le_of_ble_eq_true rfl) ?_
  have fin : ∀ (H : Heap) (locs : List Loc) (ls : Array Slot) (k n : Nat), k ≤ 600002 → n ≤ 7302198 → va_S (fun q : Nat => s.heap.size ≤ q) s.heap H locs → W p l e room_1 s m #[Value.ref b] below meth c H locs k n (lw_Z below #[Value.ref b] s) (F0 m 1271 ls []) := by
    intro H locs ls k n h1 h2 hS
    refine lv_iconst (v := 1) hx hb dL_law_1271 (by decide) ?_
    refine va_forget (fun q hq => hS.2.2 q hq) ?_
    refine W.widen (k := 600002) (n := 7302198) h1 h2 ?_
    exact lw_ret hx hb hr hlocks dL_law_1272
  refine lv_iload hx hb dL_law_33 (lv_at hl 0 rfl) ?_
  refine lv_aload_n hx hb dL_law_35 rfl (lv_at hl 4 rfl) ?_
  refine va_slen hx hb hX hbl hbA hS dL_law_36 ?_
  refine lv_bipush (v := 7) hx hb dL_law_37 (by decide) ?_
  refine lv_isub hx hb dL_law_39 ?_
  refine lv_topi (fun v ev => ?_)
  refine lv_icmp_gt (tgt := 1271) hx hb dL_law_40 (by decide) (fun c1 => ?_) (fun c1 => ?_)
  · exact fin H _ ls _ _ (Nat.le_of_ble_eq_true rfl) (Nat.le_of_ble_eq_true rfl) hS
  have hL8 : L = 8 := by
    rcases (show L = 0 ∨ L = 1 ∨ L = 2 ∨ L = 3 ∨ L = 4 ∨ L = 5 ∨ L = 6 ∨ L = 7 ∨ L = 8 by omega) with h | h | h | h | h | h | h | h | h
    · exact absurd (by rw [ev, h]; decide) c1
    · exact absurd (by rw [ev, h]; decide) c1
    · exact absurd (by rw [ev, h]; decide) c1
    · exact absurd (by rw [ev, h]; decide) c1
    · exact absurd (by rw [ev, h]; decide) c1
    · exact absurd (by rw [ev, h]; decide) c1
    · exact absurd (by rw [ev, h]; decide) c1
    · exact absurd (by rw [ev, h]; decide) c1
    · exact h
  have kk : ∀ (H : Heap) (locs : List Loc) (ls : Array Slot), va_S (fun q : Nat => s.heap.size ≤ q) s.heap H locs → lv_has ls 7 [(4, .int 1), (0, .ref b)] → W p l e room_1 s m #[Value.ref b] below meth c H locs 25 344740 (lw_Z below #[Value.ref b] s) (F0 m 1265 ls []) := by
    intro H locs ls hS hl
    refine lv_iinc (v := 8) (lv' := [(4, .int 8), (0, .ref b)]) hx hb dL_law_1265 hl (k := 0) rfl (by decide) (by decide) rfl (fun ls hl => ?_)
    refine lv_goto (tgt := 33) hx hb dL_law_1268 (by decide) ?_
    refine lv_iload hx hb dL_law_33 (lv_at hl 0 rfl) ?_
    refine lv_aload_n hx hb dL_law_35 rfl (lv_at hl 1 rfl) ?_
    refine va_slen hx hb hX hbl hbA hS dL_law_36 ?_
    refine lv_bipush (v := 7) hx hb dL_law_37 (by decide) ?_
    refine lv_isub hx hb dL_law_39 ?_
    refine lv_topi (fun v2 ev2 => ?_)
    refine lv_icmp_gt (tgt := 1271) hx hb dL_law_40 (by decide) (fun c2 => ?_) (fun c2 => ?_)
    · exact fin H _ ls _ _ (Nat.le_of_ble_eq_true rfl) (Nat.le_of_ble_eq_true rfl) hS
    · exact absurd (by rw [ev2, hL8]; decide) c2
  refine lv_aload_n hx hb dL_law_43 rfl (lv_at hl 4 rfl) ?_
  refine lv_iload hx hb dL_law_44 (lv_at hl 0 rfl) ?_
  have hin1 : vp_in 1 L := by rw [show (1 : Int32) = nI 1 by decide]; exact vp_in_nI (by omega) (by omega)
  refine va_sld hx hb hX hbl hbA hS hin1 dL_law_46 ?_
  refine lv_topi (fun a ea => ?_)
  refine lv_bipush (v := 15) hx hb dL_law_47 (by decide) ?_
  refine lv_iand hx hb dL_law_49 ?_
  refine lv_topi (fun y ey => ?_)
  obtain ⟨j, hj, ej⟩ := pk_andE a (m := 15) 4 (by decide)
  have ey : y = nI j := ey.trans ej
  subst ey
  rcases (show j = 0 ∨ j = 1 ∨ j = 2 ∨ j = 3 ∨ j = 4 ∨ j = 5 ∨ j = 6 ∨ j = 7 ∨ j = 8 ∨ j = 9 ∨ j = 10 ∨ j = 11 ∨ j = 12 ∨ j = 13 ∨ j = 14 ∨ j = 15 by omega) with rfl | rfl | rfl | rfl | rfl | rfl | rfl | rfl | rfl | rfl | rfl | rfl | rfl | rfl | rfl | rfl
  · refine lv_tableIn (off := 78) (tgt := 128) hx hb dL_law_50 (by decide) (by decide) (by decide) (by decide) ?_
    exact la_0 htr hL8 hx hb hml hown hX hbl hk hK hth hstr hP hD hS hl kk
  · refine lv_tableIn (off := 122) (tgt := 172) hx hb dL_law_50 (by decide) (by decide) (by decide) (by decide) ?_
    exact la_1 htr hL8 hx hb hml hown hX hbl hk hK hth hstr hP hD hS hl kk
  · refine lv_tableIn (off := 287) (tgt := 337) hx hb dL_law_50 (by decide) (by decide) (by decide) (by decide) ?_
    exact la_2 htr hL8 hx hb hml hown hX hbl hk hK hth hstr hP hD hS hl kk
  · refine lv_tableIn (off := 355) (tgt := 405) hx hb dL_law_50 (by decide) (by decide) (by decide) (by decide) ?_
    exact la_3 htr hL8 hx hb hml hown hX hbl hk hK hth hstr hP hD hS hl kk
  · refine lv_tableIn (off := 423) (tgt := 473) hx hb dL_law_50 (by decide) (by decide) (by decide) (by decide) ?_
    exact la_4 htr hL8 hx hb hml hown hX hbl hk hK hth hstr hP hD hS hl kk
  · refine lv_tableIn (off := 491) (tgt := 541) hx hb dL_law_50 (by decide) (by decide) (by decide) (by decide) ?_
    exact la_5 htr hL8 hx hb hml hown hX hbl hk hK hth hstr hP hD hS hl kk
  · refine lv_tableIn (off := 559) (tgt := 609) hx hb dL_law_50 (by decide) (by decide) (by decide) (by decide) ?_
    exact la_6 htr hL8 hx hb hml hown hX hbl hk hK hth hstr hP hD hS hl kk
  · refine lv_tableIn (off := 639) (tgt := 689) hx hb dL_law_50 (by decide) (by decide) (by decide) (by decide) ?_
    exact la_7 htr hL8 hx hb hml hown hX hbl hk hK hth hstr hP hD hS hl kk
  · refine lv_tableIn (off := 707) (tgt := 757) hx hb dL_law_50 (by decide) (by decide) (by decide) (by decide) ?_
    exact la_8 htr hL8 hx hb hml hown hX hbl hk hK hth hstr hP hD hS hl kk
  · refine lv_tableIn (off := 775) (tgt := 825) hx hb dL_law_50 (by decide) (by decide) (by decide) (by decide) ?_
    exact la_9 htr hL8 hx hb hml hown hX hbl hk hK hth hstr hP hD hS hl kk
  · refine lv_tableIn (off := 843) (tgt := 893) hx hb dL_law_50 (by decide) (by decide) (by decide) (by decide) ?_
    exact la_10 htr hL8 hx hb hml hown hX hbl hk hK hth hstr hP hD hS hl kk
  · refine lv_tableIn (off := 923) (tgt := 973) hx hb dL_law_50 (by decide) (by decide) (by decide) (by decide) ?_
    exact la_11 htr hL8 hx hb hml hown hX hbl hk hK hth hstr hP hD hS hl kk
  · refine lv_tableIn (off := 998) (tgt := 1048) hx hb dL_law_50 (by decide) (by decide) (by decide) (by decide) ?_
    exact la_12 htr hL8 hx hb hml hown hX hbl hk hK hth hstr hP hD hS hl kk
  · refine lv_tableIn (off := 1054) (tgt := 1104) hx hb dL_law_50 (by decide) (by decide) (by decide) (by decide) ?_
    exact la_13 htr hL8 hx hb hml hown hX hbl hk hK hth hstr hP hD hS hl kk
  · refine lv_tableIn (off := 1134) (tgt := 1184) hx hb dL_law_50 (by decide) (by decide) (by decide) (by decide) ?_
    exact la_14 htr hL8 hx hb hml hown hX hbl hk hK hth hstr hP hD hS hl kk
  · refine lv_tableIn (off := 1202) (tgt := 1252) hx hb dL_law_50 (by decide) (by decide) (by decide) (by decide) ?_
    exact la_15 htr hL8 hx hb hml hown hX hbl hk hK hth hstr hP hD hS hl kk
