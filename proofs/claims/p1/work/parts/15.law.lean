theorem gUs {dC : Nat → ClassId} {dI : Nat → Nat → Nat} {h0 : Nat} {le : Int32} {qp sa sz : Nat} {av : List Value} : FrameBlind (va_Pc av (fun U => U.heap.size = sz ∧ gU dC dI h0 le qp sa U)) := fun a U g mk q => ⟨q.1, q.2.1, gU.go (s := U) (U := U.calling g mk a) (State.WarmedH.refl U) (fun _ _ => rfl) q.2.2⟩
theorem gUat {dC : Nat → ClassId} {dI : Nat → Nat → Nat} {h0 : Nat} {le : Int32} {qp sa : Nat} {s : State} {H : Heap} {locs : List Loc} (hP : va_P (dC, dI) cls9 [(h0, .inr (0, [.int le, .ref qp, .int 0, .null]))] H) (hK : va_K (dC, dI) cls9 [] s) (hth : th_S s) (hstr : vk_R "ImageGcds" 139 "no such polynomial" sa s) (hS : va_S (fun q : Nat => s.heap.size ≤ q) s.heap H locs) : ∀ U : State, U.heap = H → s.WarmedH U.vm → gU dC dI h0 le qp sa U := fun U hU hW =>
  ⟨by rw [hU]; exact hP, va_K.moved hW.alike hK, hth.go hW.alike (fun q h => by rw [hU]; exact hS.2.1 q h (Nat.not_le.mpr h)), vk_R.warm hW hstr⟩
set_option maxHeartbeats 4000000 in
set_option maxRecDepth 100000 in
theorem la_1 {p : Program} {l : Launch} {e : Env} {s : State} {m : MethodId} {below : List Frame} {meth : Method} {c : Code} {b L : Nat} {xs : Nat → Int32} {Q : State → Prop} {dC : Nat → ClassId} {dI : Nat → Nat → Nat} {q0 qp q1 qn qo sa : Nat} {le lm : Int32} {cA cN cO : ClassId} {fo : Nat → Int64} {f : Nat → Int32} {fs : List Value} {H : Heap} {locs : List Loc} {ls : Array Slot}
    (htr : l.stackTraces = false) (hL8 : L = 8) (hx : p.tables.exec = Jvm.exec) (hb : c.code = bL_law) (hml : c.maxLocals = 7) (hown : s.vm.findClass "ImageGcdsLaw" = some m.cls) (hX : va_X b L xs s s.heap) (hbl : b < s.heap.size) (hk : ∀ w ∈ W0, w.before #[Value.ref b] s = true) (hK : va_K (dC, dI) cls9 [(cA, .object "ImageGcds$Poly"), (cN, .int), (cO, .long)] s) (hth : th_S s) (hstr : vk_R "ImageGcds" 139 "no such polynomial" sa s)
    (hP : va_P (dC, dI) cls9 [(q0, .inr (0, [.int le, .ref qp, .int 0, .null])), (qp, .inl (cA, 60, .inr (.inr (.inr (.inr (fun _ => none)))))), (q1, .inr (2, .int 0 :: .int lm :: .int 0 :: .ref qn :: fs)), (qn, .inl (cN, 290816, .inl f)), (qo, .inl (cO, 1, .inr (.inl fo)))] H) (hD : va_D (fun q : Nat => s.heap.size ≤ q) [(q0, .inr (0, [.int le, .ref qp, .int 0, .null])), (qp, .inl (cA, 60, .inr (.inr (.inr (.inr (fun _ => none)))))), (q1, .inr (2, .int 0 :: .int lm :: .int 0 :: .ref qn :: fs)), (qn, .inl (cN, 290816, .inl f)), (qo, .inl (cO, 1, .inr (.inl fo)))]) (hS : va_S (fun q : Nat => s.heap.size ≤ q) s.heap H locs) (hl : lv_has ls 7 [(4, .int 1), (3, .ref qo), (2, .ref q1), (1, .ref q0), (0, .ref b)])
    (kk : ∀ (H : Heap) (locs : List Loc) (ls : Array Slot), va_S (fun q : Nat => s.heap.size ≤ q) s.heap H locs → lv_has ls 7 [(4, .int 1), (0, .ref b)] → W p l e room_1 s m #[Value.ref b] below meth c H locs 25 344740 Q (F0 m 1265 ls [])) : W p l e room_1 s m #[Value.ref b] below meth c H locs 22 344734 Q (F0 m 172 ls []) := by
  have hA : ∀ q : Nat, s.heap.size ≤ q → (fun q : Nat => s.heap.size ≤ q) q := fun _ h => h
  have hbA : ¬ (fun q : Nat => s.heap.size ≤ q) b := Nat.not_le.mpr hbl
  have hK0 : va_K (dC, dI) cls9 [] s := hK.sub (tys' := []) [] rfl
  refine lv_aload_n hx hb dL_law_172 rfl (lv_at hl 3 rfl) ?_
  refine lv_aload_n hx hb dL_law_173 rfl (lv_at hl 4 rfl) ?_
  refine lv_iload hx hb dL_law_174 (lv_at hl 0 rfl) ?_
  refine lv_iconst (v := 1) hx hb dL_law_176 (by decide) ?_
  refine lv_iadd hx hb dL_law_177 ?_
  refine lv_topi (fun v177 ev177 => ?_)
  have ev177 : v177 = nI 2 := ev177.trans (by decide)
  subst ev177
  refine va_sld hx hb hX hbl hbA hS (vp_in_nI (n := 2) (by omega) (by omega)) dL_law_178 ?_
  refine lv_topi (fun a178 ea178 => ?_)
  refine lv_aload_n hx hb dL_law_179 rfl (lv_at hl 4 rfl) ?_
  refine lv_iload hx hb dL_law_180 (lv_at hl 0 rfl) ?_
  refine lv_iconst (v := 2) hx hb dL_law_182 (by decide) ?_
  refine lv_iadd hx hb dL_law_183 ?_
  refine lv_topi (fun v179 ev179 => ?_)
  have ev179 : v179 = nI 3 := ev179.trans (by decide)
  subst ev179
  refine va_sld hx hb hX hbl hbA hS (vp_in_nI (n := 3) (by omega) (by omega)) dL_law_184 ?_
  refine lv_topi (fun a180 ea180 => ?_)
  refine lv_i2l hx hb dL_law_185 rfl ?_
  refine lv_topl (fun v181 ev181 => ?_)
  refine lv_bipush (v := 32) hx hb dL_law_186 (by decide) ?_
  refine lv_lshl hx hb dL_law_188 rfl ?_
  refine lv_topl (fun v182 ev182 => ?_)
  refine lv_aload_n hx hb dL_law_189 rfl (lv_at hl 4 rfl) ?_
  refine lv_iload hx hb dL_law_190 (lv_at hl 0 rfl) ?_
  refine lv_iconst (v := 3) hx hb dL_law_192 (by decide) ?_
  refine lv_iadd hx hb dL_law_193 ?_
  refine lv_topi (fun v183 ev183 => ?_)
  have ev183 : v183 = nI 4 := ev183.trans (by decide)
  subst ev183
  refine va_sld hx hb hX hbl hbA hS (vp_in_nI (n := 4) (by omega) (by omega)) dL_law_194 ?_
  refine lv_topi (fun a184 ea184 => ?_)
  refine lv_i2l hx hb dL_law_195 rfl ?_
  refine lv_topl (fun v185 ev185 => ?_)
  refine lv_ldc2 (v := 4294967295) hx hb hown (hk _ k153) dL_law_196 ?_
  refine lv_land hx hb dL_law_199 ?_
  refine lv_topl (fun v186 ev186 => ?_)
  refine lv_lor hx hb dL_law_200 ?_
  refine lv_topl (fun v187 ev187 => ?_)
  refine lv_aload_n hx hb dL_law_201 rfl (lv_at hl 4 rfl) ?_
  refine lv_iload hx hb dL_law_202 (lv_at hl 0 rfl) ?_
  refine lv_iconst (v := 4) hx hb dL_law_204 (by decide) ?_
  refine lv_iadd hx hb dL_law_205 ?_
  refine lv_topi (fun v188 ev188 => ?_)
  have ev188 : v188 = nI 5 := ev188.trans (by decide)
  subst ev188
  refine va_sld hx hb hX hbl hbA hS (vp_in_nI (n := 5) (by omega) (by omega)) dL_law_206 ?_
  refine lv_topi (fun a189 ea189 => ?_)
  refine lv_i2l hx hb dL_law_207 rfl ?_
  refine lv_topl (fun v190 ev190 => ?_)
  refine lv_bipush (v := 32) hx hb dL_law_208 (by decide) ?_
  refine lv_lshl hx hb dL_law_210 rfl ?_
  refine lv_topl (fun v191 ev191 => ?_)
  refine lv_aload_n hx hb dL_law_211 rfl (lv_at hl 4 rfl) ?_
  refine lv_iload hx hb dL_law_212 (lv_at hl 0 rfl) ?_
  refine lv_iconst (v := 5) hx hb dL_law_214 (by decide) ?_
  refine lv_iadd hx hb dL_law_215 ?_
  refine lv_topi (fun v192 ev192 => ?_)
  have ev192 : v192 = nI 6 := ev192.trans (by decide)
  subst ev192
  refine va_sld hx hb hX hbl hbA hS (vp_in_nI (n := 6) (by omega) (by omega)) dL_law_216 ?_
  refine lv_topi (fun a193 ea193 => ?_)
  refine lv_i2l hx hb dL_law_217 rfl ?_
  refine lv_topl (fun v194 ev194 => ?_)
  refine lv_ldc2 (v := 4294967295) hx hb hown (hk _ k153) dL_law_218 ?_
  refine lv_land hx hb dL_law_221 ?_
  refine lv_topl (fun v195 ev195 => ?_)
  refine lv_lor hx hb dL_law_222 ?_
  refine lv_topl (fun v196 ev196 => ?_)
  refine lv_aload_n hx hb dL_law_223 rfl (lv_at hl 4 rfl) ?_
  refine lv_iload hx hb dL_law_224 (lv_at hl 0 rfl) ?_
  refine lv_bipush (v := 6) hx hb dL_law_226 (by decide) ?_
  refine lv_iadd hx hb dL_law_228 ?_
  refine lv_topi (fun v197 ev197 => ?_)
  have ev197 : v197 = nI 7 := ev197.trans (by decide)
  subst ev197
  refine va_sld hx hb hX hbl hbA hS (vp_in_nI (n := 7) (by omega) (by omega)) dL_law_229 ?_
  refine lv_topi (fun a198 ea198 => ?_)
  refine lv_aload_n hx hb dL_law_230 rfl (lv_at hl 1 rfl) ?_
  have hPg := hP.sub (ws' := [(q0, .inr (0, [.int le, .ref qp, .int 0, .null]))]) [0] rfl
  refine va_calli (th_runS (As := [.ref q0, .int a178, .long v187, .long v196, .int a198, .ref qo]) (rest := []) ⟨hx, hb, hml, hown, hk⟩ (cL_term l htr dC dI q0 le qp sa _ a178 v187 v196 a198 qo) (th_cs 6 hk (gS k154 k155 k156 k157) rfl rfl rfl (by decide +kernel) ⟨Nat.le_of_ble_eq_true rfl, Nat.le_of_ble_eq_true rfl⟩) ⟨gUs, fun U hU hW => ⟨rfl, by rw [hU], gUat hPg hK0 hth hstr hS U hU hW⟩⟩ rfl rfl hl.1 rfl (lv_room (Nat.le_of_ble_eq_true rfl)) dL_law_231 ⟨Nat.le_of_ble_eq_true rfl, Nat.le_of_ble_eq_true rfl⟩) hS (fun q h1 h2 => absurd h1 (Nat.not_lt.mpr h2)) (fun q h => Nat.le_trans hS.1 h) (fun r199 u t H1 locs ht hvm hw hB hz1 hk1 hS => ?_)
  subst hw
  have hP : va_P (dC, dI) cls9 [(q0, .inr (0, [.int le, .ref qp, .int 0, .null])), (qp, .inl (cA, 60, .inr (.inr (.inr (.inr (fun _ => none)))))), (q1, .inr (2, .int 0 :: .int lm :: .int 0 :: .ref qn :: fs)), (qn, .inl (cN, 290816, .inl f)), (qo, .inl (cO, 1, .inr (.inl fo)))] H1 := hP.kept (fun j x hx => hk1 x.1 ((hP j x hx).lt) (Nat.not_le.mpr ((hP j x hx).lt)))
  generalize H1 = H at hP hS ⊢
  refine lv_istore (lv' := [(5, .int 1), (4, .int 1), (3, .ref qo), (2, .ref q1), (1, .ref q0), (0, .ref b)]) hx hb dL_law_234 hl (by decide) rfl (fun ls hl => ?_)
  refine lv_aload_n hx hb dL_law_236 rfl (lv_at hl 3 rfl) ?_
  refine lv_aload_n hx hb dL_law_237 rfl (lv_at hl 5 rfl) ?_
  refine lv_iload hx hb dL_law_238 (lv_at hl 1 rfl) ?_
  refine lv_iconst (v := 1) hx hb dL_law_240 (by decide) ?_
  refine lv_iadd hx hb dL_law_241 ?_
  refine lv_topi (fun v200 ev200 => ?_)
  have ev200 : v200 = nI 2 := ev200.trans (by decide)
  subst ev200
  refine va_sld hx hb hX hbl hbA hS (vp_in_nI (n := 2) (by omega) (by omega)) dL_law_242 ?_
  refine lv_topi (fun a201 ea201 => ?_)
  refine lv_aload_n hx hb dL_law_243 rfl (lv_at hl 5 rfl) ?_
  refine lv_iload hx hb dL_law_244 (lv_at hl 1 rfl) ?_
  refine lv_iconst (v := 2) hx hb dL_law_246 (by decide) ?_
  refine lv_iadd hx hb dL_law_247 ?_
  refine lv_topi (fun v202 ev202 => ?_)
  have ev202 : v202 = nI 3 := ev202.trans (by decide)
  subst ev202
  refine va_sld hx hb hX hbl hbA hS (vp_in_nI (n := 3) (by omega) (by omega)) dL_law_248 ?_
  refine lv_topi (fun a203 ea203 => ?_)
  refine lv_i2l hx hb dL_law_249 rfl ?_
  refine lv_topl (fun v204 ev204 => ?_)
  refine lv_bipush (v := 32) hx hb dL_law_250 (by decide) ?_
  refine lv_lshl hx hb dL_law_252 rfl ?_
  refine lv_topl (fun v205 ev205 => ?_)
  refine lv_aload_n hx hb dL_law_253 rfl (lv_at hl 5 rfl) ?_
  refine lv_iload hx hb dL_law_254 (lv_at hl 1 rfl) ?_
  refine lv_iconst (v := 3) hx hb dL_law_256 (by decide) ?_
  refine lv_iadd hx hb dL_law_257 ?_
  refine lv_topi (fun v206 ev206 => ?_)
  have ev206 : v206 = nI 4 := ev206.trans (by decide)
  subst ev206
  refine va_sld hx hb hX hbl hbA hS (vp_in_nI (n := 4) (by omega) (by omega)) dL_law_258 ?_
  refine lv_topi (fun a207 ea207 => ?_)
  refine lv_i2l hx hb dL_law_259 rfl ?_
  refine lv_topl (fun v208 ev208 => ?_)
  refine lv_ldc2 (v := 4294967295) hx hb hown (hk _ k153) dL_law_260 ?_
  refine lv_land hx hb dL_law_263 ?_
  refine lv_topl (fun v209 ev209 => ?_)
  refine lv_lor hx hb dL_law_264 ?_
  refine lv_topl (fun v210 ev210 => ?_)
  refine lv_aload_n hx hb dL_law_265 rfl (lv_at hl 5 rfl) ?_
  refine lv_iload hx hb dL_law_266 (lv_at hl 1 rfl) ?_
  refine lv_iconst (v := 4) hx hb dL_law_268 (by decide) ?_
  refine lv_iadd hx hb dL_law_269 ?_
  refine lv_topi (fun v211 ev211 => ?_)
  have ev211 : v211 = nI 5 := ev211.trans (by decide)
  subst ev211
  refine va_sld hx hb hX hbl hbA hS (vp_in_nI (n := 5) (by omega) (by omega)) dL_law_270 ?_
  refine lv_topi (fun a212 ea212 => ?_)
  refine lv_i2l hx hb dL_law_271 rfl ?_
  refine lv_topl (fun v213 ev213 => ?_)
  refine lv_bipush (v := 32) hx hb dL_law_272 (by decide) ?_
  refine lv_lshl hx hb dL_law_274 rfl ?_
  refine lv_topl (fun v214 ev214 => ?_)
  refine lv_aload_n hx hb dL_law_275 rfl (lv_at hl 5 rfl) ?_
  refine lv_iload hx hb dL_law_276 (lv_at hl 1 rfl) ?_
  refine lv_iconst (v := 5) hx hb dL_law_278 (by decide) ?_
  refine lv_iadd hx hb dL_law_279 ?_
  refine lv_topi (fun v215 ev215 => ?_)
  have ev215 : v215 = nI 6 := ev215.trans (by decide)
  subst ev215
  refine va_sld hx hb hX hbl hbA hS (vp_in_nI (n := 6) (by omega) (by omega)) dL_law_280 ?_
  refine lv_topi (fun a216 ea216 => ?_)
  refine lv_i2l hx hb dL_law_281 rfl ?_
  refine lv_topl (fun v217 ev217 => ?_)
  refine lv_ldc2 (v := 4294967295) hx hb hown (hk _ k153) dL_law_282 ?_
  refine lv_land hx hb dL_law_285 ?_
  refine lv_topl (fun v218 ev218 => ?_)
  refine lv_lor hx hb dL_law_286 ?_
  refine lv_topl (fun v219 ev219 => ?_)
  refine lv_aload_n hx hb dL_law_287 rfl (lv_at hl 5 rfl) ?_
  refine lv_iload hx hb dL_law_288 (lv_at hl 1 rfl) ?_
  refine lv_bipush (v := 6) hx hb dL_law_290 (by decide) ?_
  refine lv_iadd hx hb dL_law_292 ?_
  refine lv_topi (fun v220 ev220 => ?_)
  have ev220 : v220 = nI 7 := ev220.trans (by decide)
  subst ev220
  refine va_sld hx hb hX hbl hbA hS (vp_in_nI (n := 7) (by omega) (by omega)) dL_law_293 ?_
  refine lv_topi (fun a221 ea221 => ?_)
  have hPm := hP.sub (ws' := mW q1 0 lm 0 (.ref qn :: fs)) [2] rfl
  have hq1 : s.heap.size ≤ q1 := hD.2 2 _ rfl
  refine va_calli (va_runV (As := [.int a201, .long v210, .long v219, .int a221]) (rest := []) ⟨hx, hb, hml, hown, hk⟩ (cM_term l dC dI q1 0 lm (.ref qn :: fs) a201 v210 v219 a221) (cwV 4 hk (gV k158 k159 k160 k71 k161) rfl rfl rfl (by decide +kernel) ⟨Nat.le_of_ble_eq_true rfl, Nat.le_of_ble_eq_true rfl⟩) ⟨mB, va_recv hK0 hPm (ci := 2) (q0 := 0) rfl rfl, mP hPm hK0⟩ rfl rfl hl.1 rfl (lv_room (Nat.le_of_ble_eq_true rfl)) dL_law_294 ⟨Nat.le_of_ble_eq_true rfl, Nat.le_of_ble_eq_true rfl⟩) hS (fun q _ h => by rw [h]; exact hq1) (fun q h => by rw [h]; exact hq1) (fun r222 u t H1 locs ht hvm hw hB hz1 hk1 hS => ?_)
  subst hw
  obtain ⟨hPm, hKm⟩ := hB
  rw [ht] at hPm
  generalize H1 = H at hPm hS ⊢
  refine lv_istore (lv' := [(6, .int 0), (5, .int 1), (4, .int 1), (3, .ref qo), (2, .ref q1), (1, .ref q0), (0, .ref b)]) hx hb dL_law_297 hl (by decide) rfl (fun ls hl => ?_)
  refine lv_aload_n hx hb dL_law_299 rfl (lv_at hl 4 rfl) ?_
  refine vp_callSi (W.runV (As := []) (rest := []) ⟨hx, hb, hml, hown, hk⟩ (cM_thrown9 l dC dI q1 1 lm 0 (.ref qn :: fs) _) (cwV 0 hk (gV k162 k163 k164 k71 k165) rfl rfl rfl (by decide +kernel) ⟨Nat.le_of_ble_eq_true rfl, Nat.le_of_ble_eq_true rfl⟩) ⟨nBl, va_recv hK0 hPm (ci := 2) (q0 := 0) rfl rfl, nPr hPm hK0 (mD (h0 := q1))⟩ rfl rfl hl.1 rfl (lv_room (Nat.le_of_ble_eq_true rfl)) dL_law_300 ⟨Nat.le_of_ble_eq_true rfl, Nat.le_of_ble_eq_true rfl⟩) (fun r223 hw => ?_)
  subst hw
  refine lv_iload hx hb dL_law_303 (lv_at hl 1 rfl) ?_
  refine lv_icmp_eq (tgt := 310) hx hb dL_law_305 (by decide) (fun c224 => ?_) (fun c224 => ?_)
  · skip
    refine lv_iload hx hb dL_law_310 (lv_at hl 1 rfl) ?_
    refine lv_if_ne (tgt := 334) hx hb dL_law_312 (by decide) (fun c225 => ?_) (fun c225 => ?_)
    · skip
      refine lv_goto (tgt := 1265) hx hb dL_law_334 (by decide) ?_
      refine W.widen (k := 25) (n := 344740) (Nat.le_of_ble_eq_true rfl) (Nat.le_of_ble_eq_true rfl) ?_
      exact kk _ _ ls hS (lv_sub hl [2, 6] rfl)
    · skip
      exact absurd c225 (by decide)
  · skip
    exact absurd c224 (by decide)
set_option maxHeartbeats 4000000 in
set_option maxRecDepth 100000 in
theorem la_2 {p : Program} {l : Launch} {e : Env} {s : State} {m : MethodId} {below : List Frame} {meth : Method} {c : Code} {b L : Nat} {xs : Nat → Int32} {Q : State → Prop} {dC : Nat → ClassId} {dI : Nat → Nat → Nat} {q0 qp q1 qn qo sa : Nat} {le lm : Int32} {cA cN cO : ClassId} {fo : Nat → Int64} {f : Nat → Int32} {fs : List Value} {H : Heap} {locs : List Loc} {ls : Array Slot}
    (htr : l.stackTraces = false) (hL8 : L = 8) (hx : p.tables.exec = Jvm.exec) (hb : c.code = bL_law) (hml : c.maxLocals = 7) (hown : s.vm.findClass "ImageGcdsLaw" = some m.cls) (hX : va_X b L xs s s.heap) (hbl : b < s.heap.size) (hk : ∀ w ∈ W0, w.before #[Value.ref b] s = true) (hK : va_K (dC, dI) cls9 [(cA, .object "ImageGcds$Poly"), (cN, .int), (cO, .long)] s) (hth : th_S s) (hstr : vk_R "ImageGcds" 139 "no such polynomial" sa s)
    (hP : va_P (dC, dI) cls9 [(q0, .inr (0, [.int le, .ref qp, .int 0, .null])), (qp, .inl (cA, 60, .inr (.inr (.inr (.inr (fun _ => none)))))), (q1, .inr (2, .int 0 :: .int lm :: .int 0 :: .ref qn :: fs)), (qn, .inl (cN, 290816, .inl f)), (qo, .inl (cO, 1, .inr (.inl fo)))] H) (hD : va_D (fun q : Nat => s.heap.size ≤ q) [(q0, .inr (0, [.int le, .ref qp, .int 0, .null])), (qp, .inl (cA, 60, .inr (.inr (.inr (.inr (fun _ => none)))))), (q1, .inr (2, .int 0 :: .int lm :: .int 0 :: .ref qn :: fs)), (qn, .inl (cN, 290816, .inl f)), (qo, .inl (cO, 1, .inr (.inl fo)))]) (hS : va_S (fun q : Nat => s.heap.size ≤ q) s.heap H locs) (hl : lv_has ls 7 [(4, .int 1), (3, .ref qo), (2, .ref q1), (1, .ref q0), (0, .ref b)])
    (kk : ∀ (H : Heap) (locs : List Loc) (ls : Array Slot), va_S (fun q : Nat => s.heap.size ≤ q) s.heap H locs → lv_has ls 7 [(4, .int 1), (0, .ref b)] → W p l e room_1 s m #[Value.ref b] below meth c H locs 25 344740 Q (F0 m 1265 ls [])) : W p l e room_1 s m #[Value.ref b] below meth c H locs 22 344734 Q (F0 m 337 ls []) := by
  have hA : ∀ q : Nat, s.heap.size ≤ q → (fun q : Nat => s.heap.size ≤ q) q := fun _ h => h
  have hbA : ¬ (fun q : Nat => s.heap.size ≤ q) b := Nat.not_le.mpr hbl
  have hK0 : va_K (dC, dI) cls9 [] s := hK.sub (tys' := []) [] rfl
  refine lv_aload_n hx hb dL_law_337 rfl (lv_at hl 3 rfl) ?_
  refine lv_aload_n hx hb dL_law_338 rfl (lv_at hl 4 rfl) ?_
  refine lv_iload hx hb dL_law_339 (lv_at hl 0 rfl) ?_
  refine lv_iconst (v := 1) hx hb dL_law_341 (by decide) ?_
  refine lv_iadd hx hb dL_law_342 ?_
  refine lv_topi (fun v226 ev226 => ?_)
  have ev226 : v226 = nI 2 := ev226.trans (by decide)
  subst ev226
  refine va_sld hx hb hX hbl hbA hS (vp_in_nI (n := 2) (by omega) (by omega)) dL_law_343 ?_
  refine lv_topi (fun a227 ea227 => ?_)
  refine lv_aload_n hx hb dL_law_344 rfl (lv_at hl 4 rfl) ?_
  refine lv_iload hx hb dL_law_345 (lv_at hl 0 rfl) ?_
  refine lv_iconst (v := 2) hx hb dL_law_347 (by decide) ?_
  refine lv_iadd hx hb dL_law_348 ?_
  refine lv_topi (fun v228 ev228 => ?_)
  have ev228 : v228 = nI 3 := ev228.trans (by decide)
  subst ev228
  refine va_sld hx hb hX hbl hbA hS (vp_in_nI (n := 3) (by omega) (by omega)) dL_law_349 ?_
  refine lv_topi (fun a229 ea229 => ?_)
  refine lv_aload_n hx hb dL_law_350 rfl (lv_at hl 1 rfl) ?_
  have hPg := hP.sub (ws' := [(q0, .inr (0, [.int le, .ref qp, .int 0, .null]))]) [0] rfl
  refine va_calli (th_runS (As := [.ref q0, .int a227, .int a229, .ref qo]) (rest := []) ⟨hx, hb, hml, hown, hk⟩ (cL_add l htr dC dI q0 le qp sa _ a227 a229 qo) (th_cs 4 hk (gS k166 k167 k156 k168) rfl rfl rfl (by decide +kernel) ⟨Nat.le_of_ble_eq_true rfl, Nat.le_of_ble_eq_true rfl⟩) ⟨gUs, fun U hU hW => ⟨rfl, by rw [hU], gUat hPg hK0 hth hstr hS U hU hW⟩⟩ rfl rfl hl.1 rfl (lv_room (Nat.le_of_ble_eq_true rfl)) dL_law_351 ⟨Nat.le_of_ble_eq_true rfl, Nat.le_of_ble_eq_true rfl⟩) hS (fun q h1 h2 => absurd h1 (Nat.not_lt.mpr h2)) (fun q h => Nat.le_trans hS.1 h) (fun r230 u t H1 locs ht hvm hw hB hz1 hk1 hS => ?_)
  subst hw
  have hP : va_P (dC, dI) cls9 [(q0, .inr (0, [.int le, .ref qp, .int 0, .null])), (qp, .inl (cA, 60, .inr (.inr (.inr (.inr (fun _ => none)))))), (q1, .inr (2, .int 0 :: .int lm :: .int 0 :: .ref qn :: fs)), (qn, .inl (cN, 290816, .inl f)), (qo, .inl (cO, 1, .inr (.inl fo)))] H1 := hP.kept (fun j x hx => hk1 x.1 ((hP j x hx).lt) (Nat.not_le.mpr ((hP j x hx).lt)))
  generalize H1 = H at hP hS ⊢
  refine lv_istore (lv' := [(5, .int 1), (4, .int 1), (3, .ref qo), (2, .ref q1), (1, .ref q0), (0, .ref b)]) hx hb dL_law_354 hl (by decide) rfl (fun ls hl => ?_)
  refine lv_aload_n hx hb dL_law_356 rfl (lv_at hl 3 rfl) ?_
  refine lv_aload_n hx hb dL_law_357 rfl (lv_at hl 5 rfl) ?_
  refine lv_iload hx hb dL_law_358 (lv_at hl 1 rfl) ?_
  refine lv_iconst (v := 1) hx hb dL_law_360 (by decide) ?_
  refine lv_iadd hx hb dL_law_361 ?_
  refine lv_topi (fun v231 ev231 => ?_)
  have ev231 : v231 = nI 2 := ev231.trans (by decide)
  subst ev231
  refine va_sld hx hb hX hbl hbA hS (vp_in_nI (n := 2) (by omega) (by omega)) dL_law_362 ?_
  refine lv_topi (fun a232 ea232 => ?_)
  refine lv_aload_n hx hb dL_law_363 rfl (lv_at hl 5 rfl) ?_
  refine lv_iload hx hb dL_law_364 (lv_at hl 1 rfl) ?_
  refine lv_iconst (v := 2) hx hb dL_law_366 (by decide) ?_
  refine lv_iadd hx hb dL_law_367 ?_
  refine lv_topi (fun v233 ev233 => ?_)
  have ev233 : v233 = nI 3 := ev233.trans (by decide)
  subst ev233
  refine va_sld hx hb hX hbl hbA hS (vp_in_nI (n := 3) (by omega) (by omega)) dL_law_368 ?_
  refine lv_topi (fun a234 ea234 => ?_)
  have hPm := hP.sub (ws' := mW q1 0 lm 0 (.ref qn :: fs)) [2] rfl
  have hq1 : s.heap.size ≤ q1 := hD.2 2 _ rfl
  refine va_calli (va_runV (As := [.int a232, .int a234]) (rest := []) ⟨hx, hb, hml, hown, hk⟩ (cM_add l dC dI q1 0 lm (.ref qn :: fs) a232 a234) (cwV 2 hk (gV k169 k170 k171 k71 k172) rfl rfl rfl (by decide +kernel) ⟨Nat.le_of_ble_eq_true rfl, Nat.le_of_ble_eq_true rfl⟩) ⟨mB, va_recv hK0 hPm (ci := 2) (q0 := 0) rfl rfl, mP hPm hK0⟩ rfl rfl hl.1 rfl (lv_room (Nat.le_of_ble_eq_true rfl)) dL_law_369 ⟨Nat.le_of_ble_eq_true rfl, Nat.le_of_ble_eq_true rfl⟩) hS (fun q _ h => by rw [h]; exact hq1) (fun q h => by rw [h]; exact hq1) (fun r235 u t H1 locs ht hvm hw hB hz1 hk1 hS => ?_)
  subst hw
  obtain ⟨hPm, hKm⟩ := hB
  rw [ht] at hPm
  generalize H1 = H at hPm hS ⊢
  refine lv_istore (lv' := [(6, .int 0), (5, .int 1), (4, .int 1), (3, .ref qo), (2, .ref q1), (1, .ref q0), (0, .ref b)]) hx hb dL_law_372 hl (by decide) rfl (fun ls hl => ?_)
  refine lv_aload_n hx hb dL_law_374 rfl (lv_at hl 4 rfl) ?_
  refine vp_callSi (W.runV (As := []) (rest := []) ⟨hx, hb, hml, hown, hk⟩ (cM_thrown9 l dC dI q1 1 lm 0 (.ref qn :: fs) _) (cwV 0 hk (gV k162 k163 k164 k71 k165) rfl rfl rfl (by decide +kernel) ⟨Nat.le_of_ble_eq_true rfl, Nat.le_of_ble_eq_true rfl⟩) ⟨nBl, va_recv hK0 hPm (ci := 2) (q0 := 0) rfl rfl, nPr hPm hK0 (mD (h0 := q1))⟩ rfl rfl hl.1 rfl (lv_room (Nat.le_of_ble_eq_true rfl)) dL_law_375 ⟨Nat.le_of_ble_eq_true rfl, Nat.le_of_ble_eq_true rfl⟩) (fun r236 hw => ?_)
  subst hw
  refine lv_iload hx hb dL_law_378 (lv_at hl 1 rfl) ?_
  refine lv_icmp_eq (tgt := 385) hx hb dL_law_380 (by decide) (fun c237 => ?_) (fun c237 => ?_)
  · skip
    refine lv_iload hx hb dL_law_385 (lv_at hl 1 rfl) ?_
    refine lv_if_ne (tgt := 402) hx hb dL_law_387 (by decide) (fun c238 => ?_) (fun c238 => ?_)
    · skip
      refine lv_goto (tgt := 1265) hx hb dL_law_402 (by decide) ?_
      refine W.widen (k := 25) (n := 344740) (Nat.le_of_ble_eq_true rfl) (Nat.le_of_ble_eq_true rfl) ?_
      exact kk _ _ ls hS (lv_sub hl [2, 6] rfl)
    · skip
      exact absurd c238 (by decide)
  · skip
    exact absurd c237 (by decide)
set_option maxHeartbeats 4000000 in
set_option maxRecDepth 100000 in
theorem la_3 {p : Program} {l : Launch} {e : Env} {s : State} {m : MethodId} {below : List Frame} {meth : Method} {c : Code} {b L : Nat} {xs : Nat → Int32} {Q : State → Prop} {dC : Nat → ClassId} {dI : Nat → Nat → Nat} {q0 qp q1 qn qo sa : Nat} {le lm : Int32} {cA cN cO : ClassId} {fo : Nat → Int64} {f : Nat → Int32} {fs : List Value} {H : Heap} {locs : List Loc} {ls : Array Slot}
    (htr : l.stackTraces = false) (hL8 : L = 8) (hx : p.tables.exec = Jvm.exec) (hb : c.code = bL_law) (hml : c.maxLocals = 7) (hown : s.vm.findClass "ImageGcdsLaw" = some m.cls) (hX : va_X b L xs s s.heap) (hbl : b < s.heap.size) (hk : ∀ w ∈ W0, w.before #[Value.ref b] s = true) (hK : va_K (dC, dI) cls9 [(cA, .object "ImageGcds$Poly"), (cN, .int), (cO, .long)] s) (hth : th_S s) (hstr : vk_R "ImageGcds" 139 "no such polynomial" sa s)
    (hP : va_P (dC, dI) cls9 [(q0, .inr (0, [.int le, .ref qp, .int 0, .null])), (qp, .inl (cA, 60, .inr (.inr (.inr (.inr (fun _ => none)))))), (q1, .inr (2, .int 0 :: .int lm :: .int 0 :: .ref qn :: fs)), (qn, .inl (cN, 290816, .inl f)), (qo, .inl (cO, 1, .inr (.inl fo)))] H) (hD : va_D (fun q : Nat => s.heap.size ≤ q) [(q0, .inr (0, [.int le, .ref qp, .int 0, .null])), (qp, .inl (cA, 60, .inr (.inr (.inr (.inr (fun _ => none)))))), (q1, .inr (2, .int 0 :: .int lm :: .int 0 :: .ref qn :: fs)), (qn, .inl (cN, 290816, .inl f)), (qo, .inl (cO, 1, .inr (.inl fo)))]) (hS : va_S (fun q : Nat => s.heap.size ≤ q) s.heap H locs) (hl : lv_has ls 7 [(4, .int 1), (3, .ref qo), (2, .ref q1), (1, .ref q0), (0, .ref b)])
    (kk : ∀ (H : Heap) (locs : List Loc) (ls : Array Slot), va_S (fun q : Nat => s.heap.size ≤ q) s.heap H locs → lv_has ls 7 [(4, .int 1), (0, .ref b)] → W p l e room_1 s m #[Value.ref b] below meth c H locs 25 344740 Q (F0 m 1265 ls [])) : W p l e room_1 s m #[Value.ref b] below meth c H locs 22 344734 Q (F0 m 405 ls []) := by
  have hA : ∀ q : Nat, s.heap.size ≤ q → (fun q : Nat => s.heap.size ≤ q) q := fun _ h => h
  have hbA : ¬ (fun q : Nat => s.heap.size ≤ q) b := Nat.not_le.mpr hbl
  have hK0 : va_K (dC, dI) cls9 [] s := hK.sub (tys' := []) [] rfl
  refine lv_aload_n hx hb dL_law_405 rfl (lv_at hl 3 rfl) ?_
  refine lv_aload_n hx hb dL_law_406 rfl (lv_at hl 4 rfl) ?_
  refine lv_iload hx hb dL_law_407 (lv_at hl 0 rfl) ?_
  refine lv_iconst (v := 1) hx hb dL_law_409 (by decide) ?_
  refine lv_iadd hx hb dL_law_410 ?_
  refine lv_topi (fun v239 ev239 => ?_)
  have ev239 : v239 = nI 2 := ev239.trans (by decide)
  subst ev239
  refine va_sld hx hb hX hbl hbA hS (vp_in_nI (n := 2) (by omega) (by omega)) dL_law_411 ?_
  refine lv_topi (fun a240 ea240 => ?_)
  refine lv_aload_n hx hb dL_law_412 rfl (lv_at hl 4 rfl) ?_
  refine lv_iload hx hb dL_law_413 (lv_at hl 0 rfl) ?_
  refine lv_iconst (v := 2) hx hb dL_law_415 (by decide) ?_
  refine lv_iadd hx hb dL_law_416 ?_
  refine lv_topi (fun v241 ev241 => ?_)
  have ev241 : v241 = nI 3 := ev241.trans (by decide)
  subst ev241
  refine va_sld hx hb hX hbl hbA hS (vp_in_nI (n := 3) (by omega) (by omega)) dL_law_417 ?_
  refine lv_topi (fun a242 ea242 => ?_)
  refine lv_aload_n hx hb dL_law_418 rfl (lv_at hl 1 rfl) ?_
  have hPg := hP.sub (ws' := [(q0, .inr (0, [.int le, .ref qp, .int 0, .null]))]) [0] rfl
  refine va_calli (th_runS (As := [.ref q0, .int a240, .int a242, .ref qo]) (rest := []) ⟨hx, hb, hml, hown, hk⟩ (cL_times l htr dC dI q0 le qp sa _ a240 a242 qo) (th_cs 4 hk (gS k173 k174 k156 k175) rfl rfl rfl (by decide +kernel) ⟨Nat.le_of_ble_eq_true rfl, Nat.le_of_ble_eq_true rfl⟩) ⟨gUs, fun U hU hW => ⟨rfl, by rw [hU], gUat hPg hK0 hth hstr hS U hU hW⟩⟩ rfl rfl hl.1 rfl (lv_room (Nat.le_of_ble_eq_true rfl)) dL_law_419 ⟨Nat.le_of_ble_eq_true rfl, Nat.le_of_ble_eq_true rfl⟩) hS (fun q h1 h2 => absurd h1 (Nat.not_lt.mpr h2)) (fun q h => Nat.le_trans hS.1 h) (fun r243 u t H1 locs ht hvm hw hB hz1 hk1 hS => ?_)
  subst hw
  have hP : va_P (dC, dI) cls9 [(q0, .inr (0, [.int le, .ref qp, .int 0, .null])), (qp, .inl (cA, 60, .inr (.inr (.inr (.inr (fun _ => none)))))), (q1, .inr (2, .int 0 :: .int lm :: .int 0 :: .ref qn :: fs)), (qn, .inl (cN, 290816, .inl f)), (qo, .inl (cO, 1, .inr (.inl fo)))] H1 := hP.kept (fun j x hx => hk1 x.1 ((hP j x hx).lt) (Nat.not_le.mpr ((hP j x hx).lt)))
  generalize H1 = H at hP hS ⊢
  refine lv_istore (lv' := [(5, .int 1), (4, .int 1), (3, .ref qo), (2, .ref q1), (1, .ref q0), (0, .ref b)]) hx hb dL_law_422 hl (by decide) rfl (fun ls hl => ?_)
  refine lv_aload_n hx hb dL_law_424 rfl (lv_at hl 3 rfl) ?_
  refine lv_aload_n hx hb dL_law_425 rfl (lv_at hl 5 rfl) ?_
  refine lv_iload hx hb dL_law_426 (lv_at hl 1 rfl) ?_
  refine lv_iconst (v := 1) hx hb dL_law_428 (by decide) ?_
  refine lv_iadd hx hb dL_law_429 ?_
  refine lv_topi (fun v244 ev244 => ?_)
  have ev244 : v244 = nI 2 := ev244.trans (by decide)
  subst ev244
  refine va_sld hx hb hX hbl hbA hS (vp_in_nI (n := 2) (by omega) (by omega)) dL_law_430 ?_
  refine lv_topi (fun a245 ea245 => ?_)
  refine lv_aload_n hx hb dL_law_431 rfl (lv_at hl 5 rfl) ?_
  refine lv_iload hx hb dL_law_432 (lv_at hl 1 rfl) ?_
  refine lv_iconst (v := 2) hx hb dL_law_434 (by decide) ?_
  refine lv_iadd hx hb dL_law_435 ?_
  refine lv_topi (fun v246 ev246 => ?_)
  have ev246 : v246 = nI 3 := ev246.trans (by decide)
  subst ev246
  refine va_sld hx hb hX hbl hbA hS (vp_in_nI (n := 3) (by omega) (by omega)) dL_law_436 ?_
  refine lv_topi (fun a247 ea247 => ?_)
  have hPm := hP.sub (ws' := mW q1 0 lm 0 (.ref qn :: fs)) [2] rfl
  have hq1 : s.heap.size ≤ q1 := hD.2 2 _ rfl
  refine va_calli (va_runV (As := [.int a245, .int a247]) (rest := []) ⟨hx, hb, hml, hown, hk⟩ (cM_times l dC dI q1 0 lm (.ref qn :: fs) a245 a247) (cwV 2 hk (gV k176 k177 k178 k71 k179) rfl rfl rfl (by decide +kernel) ⟨Nat.le_of_ble_eq_true rfl, Nat.le_of_ble_eq_true rfl⟩) ⟨mB, va_recv hK0 hPm (ci := 2) (q0 := 0) rfl rfl, mP hPm hK0⟩ rfl rfl hl.1 rfl (lv_room (Nat.le_of_ble_eq_true rfl)) dL_law_437 ⟨Nat.le_of_ble_eq_true rfl, Nat.le_of_ble_eq_true rfl⟩) hS (fun q _ h => by rw [h]; exact hq1) (fun q h => by rw [h]; exact hq1) (fun r248 u t H1 locs ht hvm hw hB hz1 hk1 hS => ?_)
  subst hw
  obtain ⟨hPm, hKm⟩ := hB
  rw [ht] at hPm
  generalize H1 = H at hPm hS ⊢
  refine lv_istore (lv' := [(6, .int 0), (5, .int 1), (4, .int 1), (3, .ref qo), (2, .ref q1), (1, .ref q0), (0, .ref b)]) hx hb dL_law_440 hl (by decide) rfl (fun ls hl => ?_)
  refine lv_aload_n hx hb dL_law_442 rfl (lv_at hl 4 rfl) ?_
  refine vp_callSi (W.runV (As := []) (rest := []) ⟨hx, hb, hml, hown, hk⟩ (cM_thrown9 l dC dI q1 1 lm 0 (.ref qn :: fs) _) (cwV 0 hk (gV k162 k163 k164 k71 k165) rfl rfl rfl (by decide +kernel) ⟨Nat.le_of_ble_eq_true rfl, Nat.le_of_ble_eq_true rfl⟩) ⟨nBl, va_recv hK0 hPm (ci := 2) (q0 := 0) rfl rfl, nPr hPm hK0 (mD (h0 := q1))⟩ rfl rfl hl.1 rfl (lv_room (Nat.le_of_ble_eq_true rfl)) dL_law_443 ⟨Nat.le_of_ble_eq_true rfl, Nat.le_of_ble_eq_true rfl⟩) (fun r249 hw => ?_)
  subst hw
  refine lv_iload hx hb dL_law_446 (lv_at hl 1 rfl) ?_
  refine lv_icmp_eq (tgt := 453) hx hb dL_law_448 (by decide) (fun c250 => ?_) (fun c250 => ?_)
  · skip
    refine lv_iload hx hb dL_law_453 (lv_at hl 1 rfl) ?_
    refine lv_if_ne (tgt := 470) hx hb dL_law_455 (by decide) (fun c251 => ?_) (fun c251 => ?_)
    · skip
      refine lv_goto (tgt := 1265) hx hb dL_law_470 (by decide) ?_
      refine W.widen (k := 25) (n := 344740) (Nat.le_of_ble_eq_true rfl) (Nat.le_of_ble_eq_true rfl) ?_
      exact kk _ _ ls hS (lv_sub hl [2, 6] rfl)
    · skip
      exact absurd c251 (by decide)
  · skip
    exact absurd c250 (by decide)
set_option maxHeartbeats 4000000 in
set_option maxRecDepth 100000 in
theorem la_4 {p : Program} {l : Launch} {e : Env} {s : State} {m : MethodId} {below : List Frame} {meth : Method} {c : Code} {b L : Nat} {xs : Nat → Int32} {Q : State → Prop} {dC : Nat → ClassId} {dI : Nat → Nat → Nat} {q0 qp q1 qn qo sa : Nat} {le lm : Int32} {cA cN cO : ClassId} {fo : Nat → Int64} {f : Nat → Int32} {fs : List Value} {H : Heap} {locs : List Loc} {ls : Array Slot}
    (htr : l.stackTraces = false) (hL8 : L = 8) (hx : p.tables.exec = Jvm.exec) (hb : c.code = bL_law) (hml : c.maxLocals = 7) (hown : s.vm.findClass "ImageGcdsLaw" = some m.cls) (hX : va_X b L xs s s.heap) (hbl : b < s.heap.size) (hk : ∀ w ∈ W0, w.before #[Value.ref b] s = true) (hK : va_K (dC, dI) cls9 [(cA, .object "ImageGcds$Poly"), (cN, .int), (cO, .long)] s) (hth : th_S s) (hstr : vk_R "ImageGcds" 139 "no such polynomial" sa s)
    (hP : va_P (dC, dI) cls9 [(q0, .inr (0, [.int le, .ref qp, .int 0, .null])), (qp, .inl (cA, 60, .inr (.inr (.inr (.inr (fun _ => none)))))), (q1, .inr (2, .int 0 :: .int lm :: .int 0 :: .ref qn :: fs)), (qn, .inl (cN, 290816, .inl f)), (qo, .inl (cO, 1, .inr (.inl fo)))] H) (hD : va_D (fun q : Nat => s.heap.size ≤ q) [(q0, .inr (0, [.int le, .ref qp, .int 0, .null])), (qp, .inl (cA, 60, .inr (.inr (.inr (.inr (fun _ => none)))))), (q1, .inr (2, .int 0 :: .int lm :: .int 0 :: .ref qn :: fs)), (qn, .inl (cN, 290816, .inl f)), (qo, .inl (cO, 1, .inr (.inl fo)))]) (hS : va_S (fun q : Nat => s.heap.size ≤ q) s.heap H locs) (hl : lv_has ls 7 [(4, .int 1), (3, .ref qo), (2, .ref q1), (1, .ref q0), (0, .ref b)])
    (kk : ∀ (H : Heap) (locs : List Loc) (ls : Array Slot), va_S (fun q : Nat => s.heap.size ≤ q) s.heap H locs → lv_has ls 7 [(4, .int 1), (0, .ref b)] → W p l e room_1 s m #[Value.ref b] below meth c H locs 25 344740 Q (F0 m 1265 ls [])) : W p l e room_1 s m #[Value.ref b] below meth c H locs 22 344734 Q (F0 m 473 ls []) := by
  have hA : ∀ q : Nat, s.heap.size ≤ q → (fun q : Nat => s.heap.size ≤ q) q := fun _ h => h
  have hbA : ¬ (fun q : Nat => s.heap.size ≤ q) b := Nat.not_le.mpr hbl
  have hK0 : va_K (dC, dI) cls9 [] s := hK.sub (tys' := []) [] rfl
  refine lv_aload_n hx hb dL_law_473 rfl (lv_at hl 3 rfl) ?_
  refine lv_aload_n hx hb dL_law_474 rfl (lv_at hl 4 rfl) ?_
  refine lv_iload hx hb dL_law_475 (lv_at hl 0 rfl) ?_
  refine lv_iconst (v := 1) hx hb dL_law_477 (by decide) ?_
  refine lv_iadd hx hb dL_law_478 ?_
  refine lv_topi (fun v252 ev252 => ?_)
  have ev252 : v252 = nI 2 := ev252.trans (by decide)
  subst ev252
  refine va_sld hx hb hX hbl hbA hS (vp_in_nI (n := 2) (by omega) (by omega)) dL_law_479 ?_
  refine lv_topi (fun a253 ea253 => ?_)
  refine lv_aload_n hx hb dL_law_480 rfl (lv_at hl 4 rfl) ?_
  refine lv_iload hx hb dL_law_481 (lv_at hl 0 rfl) ?_
  refine lv_iconst (v := 2) hx hb dL_law_483 (by decide) ?_
  refine lv_iadd hx hb dL_law_484 ?_
  refine lv_topi (fun v254 ev254 => ?_)
  have ev254 : v254 = nI 3 := ev254.trans (by decide)
  subst ev254
  refine va_sld hx hb hX hbl hbA hS (vp_in_nI (n := 3) (by omega) (by omega)) dL_law_485 ?_
  refine lv_topi (fun a255 ea255 => ?_)
  refine lv_aload_n hx hb dL_law_486 rfl (lv_at hl 1 rfl) ?_
  have hPg := hP.sub (ws' := [(q0, .inr (0, [.int le, .ref qp, .int 0, .null]))]) [0] rfl
  refine va_calli (th_runS (As := [.ref q0, .int a253, .int a255, .ref qo]) (rest := []) ⟨hx, hb, hml, hown, hk⟩ (cL_over l htr dC dI q0 le qp sa _ a253 a255 qo) (th_cs 4 hk (gS k180 k181 k156 k182) rfl rfl rfl (by decide +kernel) ⟨Nat.le_of_ble_eq_true rfl, Nat.le_of_ble_eq_true rfl⟩) ⟨gUs, fun U hU hW => ⟨rfl, by rw [hU], gUat hPg hK0 hth hstr hS U hU hW⟩⟩ rfl rfl hl.1 rfl (lv_room (Nat.le_of_ble_eq_true rfl)) dL_law_487 ⟨Nat.le_of_ble_eq_true rfl, Nat.le_of_ble_eq_true rfl⟩) hS (fun q h1 h2 => absurd h1 (Nat.not_lt.mpr h2)) (fun q h => Nat.le_trans hS.1 h) (fun r256 u t H1 locs ht hvm hw hB hz1 hk1 hS => ?_)
  subst hw
  have hP : va_P (dC, dI) cls9 [(q0, .inr (0, [.int le, .ref qp, .int 0, .null])), (qp, .inl (cA, 60, .inr (.inr (.inr (.inr (fun _ => none)))))), (q1, .inr (2, .int 0 :: .int lm :: .int 0 :: .ref qn :: fs)), (qn, .inl (cN, 290816, .inl f)), (qo, .inl (cO, 1, .inr (.inl fo)))] H1 := hP.kept (fun j x hx => hk1 x.1 ((hP j x hx).lt) (Nat.not_le.mpr ((hP j x hx).lt)))
  generalize H1 = H at hP hS ⊢
  refine lv_istore (lv' := [(5, .int 1), (4, .int 1), (3, .ref qo), (2, .ref q1), (1, .ref q0), (0, .ref b)]) hx hb dL_law_490 hl (by decide) rfl (fun ls hl => ?_)
  refine lv_aload_n hx hb dL_law_492 rfl (lv_at hl 3 rfl) ?_
  refine lv_aload_n hx hb dL_law_493 rfl (lv_at hl 5 rfl) ?_
  refine lv_iload hx hb dL_law_494 (lv_at hl 1 rfl) ?_
  refine lv_iconst (v := 1) hx hb dL_law_496 (by decide) ?_
  refine lv_iadd hx hb dL_law_497 ?_
  refine lv_topi (fun v257 ev257 => ?_)
  have ev257 : v257 = nI 2 := ev257.trans (by decide)
  subst ev257
  refine va_sld hx hb hX hbl hbA hS (vp_in_nI (n := 2) (by omega) (by omega)) dL_law_498 ?_
  refine lv_topi (fun a258 ea258 => ?_)
  refine lv_aload_n hx hb dL_law_499 rfl (lv_at hl 5 rfl) ?_
  refine lv_iload hx hb dL_law_500 (lv_at hl 1 rfl) ?_
  refine lv_iconst (v := 2) hx hb dL_law_502 (by decide) ?_
  refine lv_iadd hx hb dL_law_503 ?_
  refine lv_topi (fun v259 ev259 => ?_)
  have ev259 : v259 = nI 3 := ev259.trans (by decide)
  subst ev259
  refine va_sld hx hb hX hbl hbA hS (vp_in_nI (n := 3) (by omega) (by omega)) dL_law_504 ?_
  refine lv_topi (fun a260 ea260 => ?_)
  have hPm := hP.sub (ws' := mW q1 0 lm 0 (.ref qn :: fs)) [2] rfl
  have hq1 : s.heap.size ≤ q1 := hD.2 2 _ rfl
  refine va_calli (va_runV (As := [.int a258, .int a260]) (rest := []) ⟨hx, hb, hml, hown, hk⟩ (cM_over l dC dI q1 0 lm (.ref qn :: fs) a258 a260) (cwV 2 hk (gV k183 k184 k185 k71 k186) rfl rfl rfl (by decide +kernel) ⟨Nat.le_of_ble_eq_true rfl, Nat.le_of_ble_eq_true rfl⟩) ⟨mB, va_recv hK0 hPm (ci := 2) (q0 := 0) rfl rfl, mP hPm hK0⟩ rfl rfl hl.1 rfl (lv_room (Nat.le_of_ble_eq_true rfl)) dL_law_505 ⟨Nat.le_of_ble_eq_true rfl, Nat.le_of_ble_eq_true rfl⟩) hS (fun q _ h => by rw [h]; exact hq1) (fun q h => by rw [h]; exact hq1) (fun r261 u t H1 locs ht hvm hw hB hz1 hk1 hS => ?_)
  subst hw
  obtain ⟨hPm, hKm⟩ := hB
  rw [ht] at hPm
  generalize H1 = H at hPm hS ⊢
  refine lv_istore (lv' := [(6, .int 0), (5, .int 1), (4, .int 1), (3, .ref qo), (2, .ref q1), (1, .ref q0), (0, .ref b)]) hx hb dL_law_508 hl (by decide) rfl (fun ls hl => ?_)
  refine lv_aload_n hx hb dL_law_510 rfl (lv_at hl 4 rfl) ?_
  refine vp_callSi (W.runV (As := []) (rest := []) ⟨hx, hb, hml, hown, hk⟩ (cM_thrown9 l dC dI q1 1 lm 0 (.ref qn :: fs) _) (cwV 0 hk (gV k162 k163 k164 k71 k165) rfl rfl rfl (by decide +kernel) ⟨Nat.le_of_ble_eq_true rfl, Nat.le_of_ble_eq_true rfl⟩) ⟨nBl, va_recv hK0 hPm (ci := 2) (q0 := 0) rfl rfl, nPr hPm hK0 (mD (h0 := q1))⟩ rfl rfl hl.1 rfl (lv_room (Nat.le_of_ble_eq_true rfl)) dL_law_511 ⟨Nat.le_of_ble_eq_true rfl, Nat.le_of_ble_eq_true rfl⟩) (fun r262 hw => ?_)
  subst hw
  refine lv_iload hx hb dL_law_514 (lv_at hl 1 rfl) ?_
  refine lv_icmp_eq (tgt := 521) hx hb dL_law_516 (by decide) (fun c263 => ?_) (fun c263 => ?_)
  · skip
    refine lv_iload hx hb dL_law_521 (lv_at hl 1 rfl) ?_
    refine lv_if_ne (tgt := 538) hx hb dL_law_523 (by decide) (fun c264 => ?_) (fun c264 => ?_)
    · skip
      refine lv_goto (tgt := 1265) hx hb dL_law_538 (by decide) ?_
      refine W.widen (k := 25) (n := 344740) (Nat.le_of_ble_eq_true rfl) (Nat.le_of_ble_eq_true rfl) ?_
      exact kk _ _ ls hS (lv_sub hl [2, 6] rfl)
    · skip
      exact absurd c264 (by decide)
  · skip
    exact absurd c263 (by decide)
set_option maxHeartbeats 4000000 in
set_option maxRecDepth 100000 in
theorem la_5 {p : Program} {l : Launch} {e : Env} {s : State} {m : MethodId} {below : List Frame} {meth : Method} {c : Code} {b L : Nat} {xs : Nat → Int32} {Q : State → Prop} {dC : Nat → ClassId} {dI : Nat → Nat → Nat} {q0 qp q1 qn qo sa : Nat} {le lm : Int32} {cA cN cO : ClassId} {fo : Nat → Int64} {f : Nat → Int32} {fs : List Value} {H : Heap} {locs : List Loc} {ls : Array Slot}
    (htr : l.stackTraces = false) (hL8 : L = 8) (hx : p.tables.exec = Jvm.exec) (hb : c.code = bL_law) (hml : c.maxLocals = 7) (hown : s.vm.findClass "ImageGcdsLaw" = some m.cls) (hX : va_X b L xs s s.heap) (hbl : b < s.heap.size) (hk : ∀ w ∈ W0, w.before #[Value.ref b] s = true) (hK : va_K (dC, dI) cls9 [(cA, .object "ImageGcds$Poly"), (cN, .int), (cO, .long)] s) (hth : th_S s) (hstr : vk_R "ImageGcds" 139 "no such polynomial" sa s)
    (hP : va_P (dC, dI) cls9 [(q0, .inr (0, [.int le, .ref qp, .int 0, .null])), (qp, .inl (cA, 60, .inr (.inr (.inr (.inr (fun _ => none)))))), (q1, .inr (2, .int 0 :: .int lm :: .int 0 :: .ref qn :: fs)), (qn, .inl (cN, 290816, .inl f)), (qo, .inl (cO, 1, .inr (.inl fo)))] H) (hD : va_D (fun q : Nat => s.heap.size ≤ q) [(q0, .inr (0, [.int le, .ref qp, .int 0, .null])), (qp, .inl (cA, 60, .inr (.inr (.inr (.inr (fun _ => none)))))), (q1, .inr (2, .int 0 :: .int lm :: .int 0 :: .ref qn :: fs)), (qn, .inl (cN, 290816, .inl f)), (qo, .inl (cO, 1, .inr (.inl fo)))]) (hS : va_S (fun q : Nat => s.heap.size ≤ q) s.heap H locs) (hl : lv_has ls 7 [(4, .int 1), (3, .ref qo), (2, .ref q1), (1, .ref q0), (0, .ref b)])
    (kk : ∀ (H : Heap) (locs : List Loc) (ls : Array Slot), va_S (fun q : Nat => s.heap.size ≤ q) s.heap H locs → lv_has ls 7 [(4, .int 1), (0, .ref b)] → W p l e room_1 s m #[Value.ref b] below meth c H locs 25 344740 Q (F0 m 1265 ls [])) : W p l e room_1 s m #[Value.ref b] below meth c H locs 22 344734 Q (F0 m 541 ls []) := by
  have hA : ∀ q : Nat, s.heap.size ≤ q → (fun q : Nat => s.heap.size ≤ q) q := fun _ h => h
  have hbA : ¬ (fun q : Nat => s.heap.size ≤ q) b := Nat.not_le.mpr hbl
  have hK0 : va_K (dC, dI) cls9 [] s := hK.sub (tys' := []) [] rfl
  refine lv_aload_n hx hb dL_law_541 rfl (lv_at hl 3 rfl) ?_
  refine lv_aload_n hx hb dL_law_542 rfl (lv_at hl 4 rfl) ?_
  refine lv_iload hx hb dL_law_543 (lv_at hl 0 rfl) ?_
  refine lv_iconst (v := 1) hx hb dL_law_545 (by decide) ?_
  refine lv_iadd hx hb dL_law_546 ?_
  refine lv_topi (fun v265 ev265 => ?_)
  have ev265 : v265 = nI 2 := ev265.trans (by decide)
  subst ev265
  refine va_sld hx hb hX hbl hbA hS (vp_in_nI (n := 2) (by omega) (by omega)) dL_law_547 ?_
  refine lv_topi (fun a266 ea266 => ?_)
  refine lv_aload_n hx hb dL_law_548 rfl (lv_at hl 4 rfl) ?_
  refine lv_iload hx hb dL_law_549 (lv_at hl 0 rfl) ?_
  refine lv_iconst (v := 2) hx hb dL_law_551 (by decide) ?_
  refine lv_iadd hx hb dL_law_552 ?_
  refine lv_topi (fun v267 ev267 => ?_)
  have ev267 : v267 = nI 3 := ev267.trans (by decide)
  subst ev267
  refine va_sld hx hb hX hbl hbA hS (vp_in_nI (n := 3) (by omega) (by omega)) dL_law_553 ?_
  refine lv_topi (fun a268 ea268 => ?_)
  refine lv_aload_n hx hb dL_law_554 rfl (lv_at hl 1 rfl) ?_
  have hPg := hP.sub (ws' := [(q0, .inr (0, [.int le, .ref qp, .int 0, .null]))]) [0] rfl
  refine va_calli (th_runS (As := [.ref q0, .int a266, .int a268, .ref qo]) (rest := []) ⟨hx, hb, hml, hown, hk⟩ (cL_gcd l htr dC dI q0 le qp sa _ a266 a268 qo) (th_cs 4 hk (gS k187 k188 k156 k189) rfl rfl rfl (by decide +kernel) ⟨Nat.le_of_ble_eq_true rfl, Nat.le_of_ble_eq_true rfl⟩) ⟨gUs, fun U hU hW => ⟨rfl, by rw [hU], gUat hPg hK0 hth hstr hS U hU hW⟩⟩ rfl rfl hl.1 rfl (lv_room (Nat.le_of_ble_eq_true rfl)) dL_law_555 ⟨Nat.le_of_ble_eq_true rfl, Nat.le_of_ble_eq_true rfl⟩) hS (fun q h1 h2 => absurd h1 (Nat.not_lt.mpr h2)) (fun q h => Nat.le_trans hS.1 h) (fun r269 u t H1 locs ht hvm hw hB hz1 hk1 hS => ?_)
  subst hw
  have hP : va_P (dC, dI) cls9 [(q0, .inr (0, [.int le, .ref qp, .int 0, .null])), (qp, .inl (cA, 60, .inr (.inr (.inr (.inr (fun _ => none)))))), (q1, .inr (2, .int 0 :: .int lm :: .int 0 :: .ref qn :: fs)), (qn, .inl (cN, 290816, .inl f)), (qo, .inl (cO, 1, .inr (.inl fo)))] H1 := hP.kept (fun j x hx => hk1 x.1 ((hP j x hx).lt) (Nat.not_le.mpr ((hP j x hx).lt)))
  generalize H1 = H at hP hS ⊢
  refine lv_istore (lv' := [(5, .int 1), (4, .int 1), (3, .ref qo), (2, .ref q1), (1, .ref q0), (0, .ref b)]) hx hb dL_law_558 hl (by decide) rfl (fun ls hl => ?_)
  refine lv_aload_n hx hb dL_law_560 rfl (lv_at hl 3 rfl) ?_
  refine lv_aload_n hx hb dL_law_561 rfl (lv_at hl 5 rfl) ?_
  refine lv_iload hx hb dL_law_562 (lv_at hl 1 rfl) ?_
  refine lv_iconst (v := 1) hx hb dL_law_564 (by decide) ?_
  refine lv_iadd hx hb dL_law_565 ?_
  refine lv_topi (fun v270 ev270 => ?_)
  have ev270 : v270 = nI 2 := ev270.trans (by decide)
  subst ev270
  refine va_sld hx hb hX hbl hbA hS (vp_in_nI (n := 2) (by omega) (by omega)) dL_law_566 ?_
  refine lv_topi (fun a271 ea271 => ?_)
  refine lv_aload_n hx hb dL_law_567 rfl (lv_at hl 5 rfl) ?_
  refine lv_iload hx hb dL_law_568 (lv_at hl 1 rfl) ?_
  refine lv_iconst (v := 2) hx hb dL_law_570 (by decide) ?_
  refine lv_iadd hx hb dL_law_571 ?_
  refine lv_topi (fun v272 ev272 => ?_)
  have ev272 : v272 = nI 3 := ev272.trans (by decide)
  subst ev272
  refine va_sld hx hb hX hbl hbA hS (vp_in_nI (n := 3) (by omega) (by omega)) dL_law_572 ?_
  refine lv_topi (fun a273 ea273 => ?_)
  have hPm := hP.sub (ws' := mW q1 0 lm 0 (.ref qn :: fs)) [2] rfl
  have hq1 : s.heap.size ≤ q1 := hD.2 2 _ rfl
  refine va_calli (va_runV (As := [.int a271, .int a273]) (rest := []) ⟨hx, hb, hml, hown, hk⟩ (cM_gcd l dC dI q1 0 lm (.ref qn :: fs) a271 a273) (cwV 2 hk (gV k190 k191 k192 k71 k193) rfl rfl rfl (by decide +kernel) ⟨Nat.le_of_ble_eq_true rfl, Nat.le_of_ble_eq_true rfl⟩) ⟨mB, va_recv hK0 hPm (ci := 2) (q0 := 0) rfl rfl, mP hPm hK0⟩ rfl rfl hl.1 rfl (lv_room (Nat.le_of_ble_eq_true rfl)) dL_law_573 ⟨Nat.le_of_ble_eq_true rfl, Nat.le_of_ble_eq_true rfl⟩) hS (fun q _ h => by rw [h]; exact hq1) (fun q h => by rw [h]; exact hq1) (fun r274 u t H1 locs ht hvm hw hB hz1 hk1 hS => ?_)
  subst hw
  obtain ⟨hPm, hKm⟩ := hB
  rw [ht] at hPm
  generalize H1 = H at hPm hS ⊢
  refine lv_istore (lv' := [(6, .int 0), (5, .int 1), (4, .int 1), (3, .ref qo), (2, .ref q1), (1, .ref q0), (0, .ref b)]) hx hb dL_law_576 hl (by decide) rfl (fun ls hl => ?_)
  refine lv_aload_n hx hb dL_law_578 rfl (lv_at hl 4 rfl) ?_
  refine vp_callSi (W.runV (As := []) (rest := []) ⟨hx, hb, hml, hown, hk⟩ (cM_thrown9 l dC dI q1 1 lm 0 (.ref qn :: fs) _) (cwV 0 hk (gV k162 k163 k164 k71 k165) rfl rfl rfl (by decide +kernel) ⟨Nat.le_of_ble_eq_true rfl, Nat.le_of_ble_eq_true rfl⟩) ⟨nBl, va_recv hK0 hPm (ci := 2) (q0 := 0) rfl rfl, nPr hPm hK0 (mD (h0 := q1))⟩ rfl rfl hl.1 rfl (lv_room (Nat.le_of_ble_eq_true rfl)) dL_law_579 ⟨Nat.le_of_ble_eq_true rfl, Nat.le_of_ble_eq_true rfl⟩) (fun r275 hw => ?_)
  subst hw
  refine lv_iload hx hb dL_law_582 (lv_at hl 1 rfl) ?_
  refine lv_icmp_eq (tgt := 589) hx hb dL_law_584 (by decide) (fun c276 => ?_) (fun c276 => ?_)
  · skip
    refine lv_iload hx hb dL_law_589 (lv_at hl 1 rfl) ?_
    refine lv_if_ne (tgt := 606) hx hb dL_law_591 (by decide) (fun c277 => ?_) (fun c277 => ?_)
    · skip
      refine lv_goto (tgt := 1265) hx hb dL_law_606 (by decide) ?_
      refine W.widen (k := 25) (n := 344740) (Nat.le_of_ble_eq_true rfl) (Nat.le_of_ble_eq_true rfl) ?_
      exact kk _ _ ls hS (lv_sub hl [2, 6] rfl)
    · skip
      exact absurd c277 (by decide)
  · skip
    exact absurd c276 (by decide)
