set_option maxRecDepth 100000 in
theorem lw_processes (l : Launch) (ad : Nat → Nat) (E : Ev) (C : Cx E l room_1 4 cL_law RL) (hN : Nx E (.methodLinkNest RX9 239 yX1_readCondition "RunCuts")) (b L : Nat) (xs : Nat → Int32) (SX : Sx E b L xs) (hL : L ≤ 2560) (σ : Sg) (hXσ : IX σ.1) (hIσ : IM σ.1) (hRσ : RlA σ.1) (hCσ : RlC σ.1) (i : Int32) (hi : 0 ≤ i.toInt ∧ i.toInt + 5 ≤ L) (K : ∀ τ : Sg, IX τ.1 → IM τ.1 → RlA τ.1 → RlC τ.1 → WP E ad 1452 [some (.ref b), some (.ref (ad 0)), some (.ref (ad 71)), some (.int i)] [] τ) : WP E ad 216 [some (.ref b), some (.ref (ad 0)), some (.ref (ad 71)), some (.int i)] [] σ := by
  refine s_aload_n C dL_law_216 rfl ?_
  refine s_aload_n C dL_law_217 rfl ?_
  refine s_iload_n C dL_law_218 rfl ?_
  refine s_iconst C dL_law_219 (by decide) (fun z1 tz1 => ?_)
  refine s_iadd C dL_law_220 (by omega) (fun z2 tz2 => ?_)
  refine s_sld C SX (by omega) dL_law_221 ?_
  refine s_callVI (st := []) C (f_X9_processes l ad σ ((xs z2.toNatClampNeg)) hXσ) cv_L_13 y0 rfl rfl rfl ⟨by decide, by decide⟩ (Nat.le_of_ble_eq_true rfl) dL_law_222 ?_
  intro r3 τ4 h5
  have hXτ4 := h5.1
  have gτ4 := Fr.ge h5.2.1 (by decide) (by decide)
  have hIτ4 : IM τ4.1 := IM.of gτ4 hIσ
  refine s_pop C dL_law_225 rfl ?_
  refine s_aload_n C dL_law_226 rfl ?_
  refine s_aload_n C dL_law_227 rfl ?_
  refine s_iload_n C dL_law_228 rfl ?_
  refine s_iconst C dL_law_229 (by decide) (fun z6 tz6 => ?_)
  refine s_iadd C dL_law_230 (by omega) (fun z7 tz7 => ?_)
  rw [show z7 = z2 from ceq (by omega)]
  refine s_sld C SX (by omega) dL_law_231 ?_
  refine s_callVI (st := []) C (f_X10_processes l ad τ4 ((xs z2.toNatClampNeg)) hIτ4) cv_L_17 y71 rfl rfl rfl ⟨by decide, by decide⟩ (Nat.le_of_ble_eq_true rfl) dL_law_232 ?_
  intro r8 τ9 h10
  have hIτ9 := h10.1
  have gτ9 := Fr.lt h10.2.1 (by decide) (by decide)
  have hXτ9 : IX τ9.1 := IX.of gτ9 hXτ4
  have zτ9 := lr_processes hRσ gτ4 gτ9 h5.2.1 h10.2.1 h5.2.2.1 h10.2.2.1
  have hRτ9 : RlA τ9.1 := zτ9.elim (fun q => q.1) (fun q => q.1)
  have zzτ9 := zτ9.elim (fun q => congrArg Int32.toInt q.2) (fun q => q.2)
  have wτ9 := lc_processes hCσ gτ4 gτ9 h5.2.1 h10.2.1 h5.2.2.2 h10.2.2.2
  have hCτ9 : RlC τ9.1 := wτ9
  refine s_pop C dL_law_235 rfl ?_
  refine s_goto (tgt := 1452) C dL_law_236 (by decide) ?_
  exact K τ9 hXτ9 hIτ9 hRτ9 hCτ9
set_option maxRecDepth 100000 in
theorem lw_start (l : Launch) (ad : Nat → Nat) (E : Ev) (C : Cx E l room_1 4 cL_law RL) (hN : Nx E (.methodLinkNest RX9 239 yX1_readCondition "RunCuts")) (b L : Nat) (xs : Nat → Int32) (SX : Sx E b L xs) (hL : L ≤ 2560) (σ : Sg) (hXσ : IX σ.1) (hIσ : IM σ.1) (hRσ : RlA σ.1) (hCσ : RlC σ.1) (i : Int32) (hi : 0 ≤ i.toInt ∧ i.toInt + 5 ≤ L) (K : ∀ τ : Sg, IX τ.1 → IM τ.1 → RlA τ.1 → RlC τ.1 → WP E ad 1452 [some (.ref b), some (.ref (ad 0)), some (.ref (ad 71)), some (.int i)] [] τ) : WP E ad 239 [some (.ref b), some (.ref (ad 0)), some (.ref (ad 71)), some (.int i)] [] σ := by
  refine s_aload_n C dL_law_239 rfl ?_
  refine s_aload_n C dL_law_240 rfl ?_
  refine s_iload_n C dL_law_241 rfl ?_
  refine s_iconst C dL_law_242 (by decide) (fun z1 tz1 => ?_)
  refine s_iadd C dL_law_243 (by omega) (fun z2 tz2 => ?_)
  refine s_sld C SX (by omega) dL_law_244 ?_
  refine s_aload_n C dL_law_245 rfl ?_
  refine s_iload_n C dL_law_246 rfl ?_
  refine s_iconst C dL_law_247 (by decide) (fun z3 tz3 => ?_)
  refine s_iadd C dL_law_248 (by omega) (fun z4 tz4 => ?_)
  refine s_sld C SX (by omega) dL_law_249 ?_
  refine s_callVI (st := []) C (c_X9_start l ad σ ((xs z2.toNatClampNeg)) ((xs z4.toNatClampNeg)) hXσ) cv_L_18 y0 rfl rfl rfl ⟨by decide, by decide⟩ (Nat.le_of_ble_eq_true rfl) dL_law_250 ?_
  intro r5 τ6 h7
  have hXτ6 := h7.1
  have gτ6 := Fr.ge h7.2.1 (by decide) (by decide)
  have hIτ6 : IM τ6.1 := IM.of gτ6 hIσ
  have hCτ6 : RlC τ6.1 := RlC.keep hCσ h7.2.1 (by decide) (by decide) (by decide) (by decide)
  refine s_pop C dL_law_253 rfl ?_
  refine s_aload_n C dL_law_254 rfl ?_
  refine s_aload_n C dL_law_255 rfl ?_
  refine s_iload_n C dL_law_256 rfl ?_
  refine s_iconst C dL_law_257 (by decide) (fun z8 tz8 => ?_)
  refine s_iadd C dL_law_258 (by omega) (fun z9 tz9 => ?_)
  rw [show z9 = z2 from ceq (by omega)]
  refine s_sld C SX (by omega) dL_law_259 ?_
  refine s_aload_n C dL_law_260 rfl ?_
  refine s_iload_n C dL_law_261 rfl ?_
  refine s_iconst C dL_law_262 (by decide) (fun z10 tz10 => ?_)
  refine s_iadd C dL_law_263 (by omega) (fun z11 tz11 => ?_)
  rw [show z11 = z4 from ceq (by omega)]
  refine s_sld C SX (by omega) dL_law_264 ?_
  refine s_callVI (st := []) C (c2_X10_start l ad τ6 ((xs z2.toNatClampNeg)) ((xs z4.toNatClampNeg)) hIτ6) cv_L_22 y71 rfl rfl rfl ⟨by decide, by decide⟩ (Nat.le_of_ble_eq_true rfl) dL_law_265 ?_
  intro r12 τ13 h14
  have hIτ13 := h14.1
  have gτ13 := Fr.lt h14.2.1 (by decide) (by decide)
  have hXτ13 : IX τ13.1 := IX.of gτ13 hXτ6
  have zτ13 := lr_start (hpr := hXσ.pr.2) hRσ gτ6 gτ13 h7.2.1 h14.2.1 h7.2.2 h14.2.2
  have hRτ13 : RlA τ13.1 := zτ13.1
  have zzτ13 := zτ13.2
  have hCτ13 : RlC τ13.1 := RlC.keep hCτ6 h14.2.1 (by decide) (by decide) (by decide) (by decide)
  refine s_pop C dL_law_268 rfl ?_
  refine s_goto (tgt := 1452) C dL_law_269 (by decide) ?_
  exact K τ13 hXτ13 hIτ13 hRτ13 hCτ13
set_option maxRecDepth 100000 in
theorem lw_step (l : Launch) (ad : Nat → Nat) (E : Ev) (C : Cx E l room_1 4 cL_law RL) (hN : Nx E (.methodLinkNest RX9 239 yX1_readCondition "RunCuts")) (b L : Nat) (xs : Nat → Int32) (SX : Sx E b L xs) (hL : L ≤ 2560) (σ : Sg) (hXσ : IX σ.1) (hIσ : IM σ.1) (hRσ : RlA σ.1) (hCσ : RlC σ.1) (i : Int32) (hi : 0 ≤ i.toInt ∧ i.toInt + 5 ≤ L) (K : ∀ τ : Sg, IX τ.1 → IM τ.1 → RlA τ.1 → RlC τ.1 → WP E ad 1452 [some (.ref b), some (.ref (ad 0)), some (.ref (ad 71)), some (.int i)] [] τ) : WP E ad 272 [some (.ref b), some (.ref (ad 0)), some (.ref (ad 71)), some (.int i)] [] σ := by
  refine s_aload_n C dL_law_272 rfl ?_
  refine s_aload_n C dL_law_273 rfl ?_
  refine s_iload_n C dL_law_274 rfl ?_
  refine s_iconst C dL_law_275 (by decide) (fun z1 tz1 => ?_)
  refine s_iadd C dL_law_276 (by omega) (fun z2 tz2 => ?_)
  refine s_sld C SX (by omega) dL_law_277 ?_
  refine s_aload_n C dL_law_278 rfl ?_
  refine s_iload_n C dL_law_279 rfl ?_
  refine s_iconst C dL_law_280 (by decide) (fun z3 tz3 => ?_)
  refine s_iadd C dL_law_281 (by omega) (fun z4 tz4 => ?_)
  refine s_sld C SX (by omega) dL_law_282 ?_
  refine s_callVI (st := []) C (c_X9_step l ad σ ((xs z2.toNatClampNeg)) ((xs z4.toNatClampNeg)) hXσ) cv_L_23 y0 rfl rfl rfl ⟨by decide, by decide⟩ (Nat.le_of_ble_eq_true rfl) dL_law_283 ?_
  intro r5 τ6 h7
  have hXτ6 := h7.1
  have gτ6 := Fr.ge h7.2.1 (by decide) (by decide)
  have hIτ6 : IM τ6.1 := IM.of gτ6 hIσ
  have hRτ6 : RlA τ6.1 := RlA.keep hRσ h7.2.1 (by decide) (by decide) (by decide) (by decide) (by decide)
  have hCτ6 : RlC τ6.1 := RlC.keep hCσ h7.2.1 (by decide) (by decide) (by decide) (by decide)
  refine s_pop C dL_law_286 rfl ?_
  refine s_aload_n C dL_law_287 rfl ?_
  refine s_aload_n C dL_law_288 rfl ?_
  refine s_iload_n C dL_law_289 rfl ?_
  refine s_iconst C dL_law_290 (by decide) (fun z8 tz8 => ?_)
  refine s_iadd C dL_law_291 (by omega) (fun z9 tz9 => ?_)
  rw [show z9 = z2 from ceq (by omega)]
  refine s_sld C SX (by omega) dL_law_292 ?_
  refine s_aload_n C dL_law_293 rfl ?_
  refine s_iload_n C dL_law_294 rfl ?_
  refine s_iconst C dL_law_295 (by decide) (fun z10 tz10 => ?_)
  refine s_iadd C dL_law_296 (by omega) (fun z11 tz11 => ?_)
  rw [show z11 = z4 from ceq (by omega)]
  refine s_sld C SX (by omega) dL_law_297 ?_
  refine s_callVI (st := []) C (c_X10_step l ad τ6 ((xs z2.toNatClampNeg)) ((xs z4.toNatClampNeg)) hIτ6) cv_L_26 y71 rfl rfl rfl ⟨by decide, by decide⟩ (Nat.le_of_ble_eq_true rfl) dL_law_298 ?_
  intro r12 τ13 h14
  have hIτ13 := h14.1
  have gτ13 := Fr.lt h14.2 (by decide) (by decide)
  have hXτ13 : IX τ13.1 := IX.of gτ13 hXτ6
  have hRτ13 : RlA τ13.1 := RlA.keep hRτ6 h14.2 (by decide) (by decide) (by decide) (by decide) (by decide)
  have hCτ13 : RlC τ13.1 := RlC.keep hCτ6 h14.2 (by decide) (by decide) (by decide) (by decide)
  refine s_pop C dL_law_301 rfl ?_
  refine s_goto (tgt := 1452) C dL_law_302 (by decide) ?_
  exact K τ13 hXτ13 hIτ13 hRτ13 hCτ13
set_option maxRecDepth 100000 in
theorem lw_send (l : Launch) (ad : Nat → Nat) (E : Ev) (C : Cx E l room_1 4 cL_law RL) (hN : Nx E (.methodLinkNest RX9 239 yX1_readCondition "RunCuts")) (b L : Nat) (xs : Nat → Int32) (SX : Sx E b L xs) (hL : L ≤ 2560) (σ : Sg) (hXσ : IX σ.1) (hIσ : IM σ.1) (hRσ : RlA σ.1) (hCσ : RlC σ.1) (i : Int32) (hi : 0 ≤ i.toInt ∧ i.toInt + 5 ≤ L) (K : ∀ τ : Sg, IX τ.1 → IM τ.1 → RlA τ.1 → RlC τ.1 → WP E ad 1452 [some (.ref b), some (.ref (ad 0)), some (.ref (ad 71)), some (.int i)] [] τ) : WP E ad 305 [some (.ref b), some (.ref (ad 0)), some (.ref (ad 71)), some (.int i)] [] σ := by
  refine s_aload_n C dL_law_305 rfl ?_
  refine s_aload_n C dL_law_306 rfl ?_
  refine s_iload_n C dL_law_307 rfl ?_
  refine s_iconst C dL_law_308 (by decide) (fun z1 tz1 => ?_)
  refine s_iadd C dL_law_309 (by omega) (fun z2 tz2 => ?_)
  refine s_sld C SX (by omega) dL_law_310 ?_
  refine s_aload_n C dL_law_311 rfl ?_
  refine s_iload_n C dL_law_312 rfl ?_
  refine s_iconst C dL_law_313 (by decide) (fun z3 tz3 => ?_)
  refine s_iadd C dL_law_314 (by omega) (fun z4 tz4 => ?_)
  refine s_sld C SX (by omega) dL_law_315 ?_
  refine s_callVI (st := []) C (c_X9_send l ad σ ((xs z2.toNatClampNeg)) ((xs z4.toNatClampNeg)) hXσ) cv_L_27 y0 rfl rfl rfl ⟨by decide, by decide⟩ (Nat.le_of_ble_eq_true rfl) dL_law_316 ?_
  intro r5 τ6 h7
  have hXτ6 := h7.1
  have gτ6 := Fr.ge h7.2.1 (by decide) (by decide)
  have hIτ6 : IM τ6.1 := IM.of gτ6 hIσ
  have hRτ6 : RlA τ6.1 := RlA.keep hRσ h7.2.1 (by decide) (by decide) (by decide) (by decide) (by decide)
  have hCτ6 : RlC τ6.1 := RlC.keep hCσ h7.2.1 (by decide) (by decide) (by decide) (by decide)
  refine s_pop C dL_law_319 rfl ?_
  refine s_aload_n C dL_law_320 rfl ?_
  refine s_aload_n C dL_law_321 rfl ?_
  refine s_iload_n C dL_law_322 rfl ?_
  refine s_iconst C dL_law_323 (by decide) (fun z8 tz8 => ?_)
  refine s_iadd C dL_law_324 (by omega) (fun z9 tz9 => ?_)
  rw [show z9 = z2 from ceq (by omega)]
  refine s_sld C SX (by omega) dL_law_325 ?_
  refine s_aload_n C dL_law_326 rfl ?_
  refine s_iload_n C dL_law_327 rfl ?_
  refine s_iconst C dL_law_328 (by decide) (fun z10 tz10 => ?_)
  refine s_iadd C dL_law_329 (by omega) (fun z11 tz11 => ?_)
  rw [show z11 = z4 from ceq (by omega)]
  refine s_sld C SX (by omega) dL_law_330 ?_
  refine s_callVI (st := []) C (c_X10_send l ad τ6 ((xs z2.toNatClampNeg)) ((xs z4.toNatClampNeg)) hIτ6) cv_L_30 y71 rfl rfl rfl ⟨by decide, by decide⟩ (Nat.le_of_ble_eq_true rfl) dL_law_331 ?_
  intro r12 τ13 h14
  have hIτ13 := h14.1
  have gτ13 := Fr.lt h14.2 (by decide) (by decide)
  have hXτ13 : IX τ13.1 := IX.of gτ13 hXτ6
  have hRτ13 : RlA τ13.1 := RlA.keep hRτ6 h14.2 (by decide) (by decide) (by decide) (by decide) (by decide)
  have hCτ13 : RlC τ13.1 := RlC.keep hCτ6 h14.2 (by decide) (by decide) (by decide) (by decide)
  refine s_pop C dL_law_334 rfl ?_
  refine s_goto (tgt := 1452) C dL_law_335 (by decide) ?_
  exact K τ13 hXτ13 hIτ13 hRτ13 hCτ13
set_option maxRecDepth 100000 in
theorem lw_take (l : Launch) (ad : Nat → Nat) (E : Ev) (C : Cx E l room_1 4 cL_law RL) (hN : Nx E (.methodLinkNest RX9 239 yX1_readCondition "RunCuts")) (b L : Nat) (xs : Nat → Int32) (SX : Sx E b L xs) (hL : L ≤ 2560) (σ : Sg) (hXσ : IX σ.1) (hIσ : IM σ.1) (hRσ : RlA σ.1) (hCσ : RlC σ.1) (i : Int32) (hi : 0 ≤ i.toInt ∧ i.toInt + 5 ≤ L) (K : ∀ τ : Sg, IX τ.1 → IM τ.1 → RlA τ.1 → RlC τ.1 → WP E ad 1452 [some (.ref b), some (.ref (ad 0)), some (.ref (ad 71)), some (.int i)] [] τ) : WP E ad 338 [some (.ref b), some (.ref (ad 0)), some (.ref (ad 71)), some (.int i)] [] σ := by
  refine s_aload_n C dL_law_338 rfl ?_
  refine s_aload_n C dL_law_339 rfl ?_
  refine s_iload_n C dL_law_340 rfl ?_
  refine s_iconst C dL_law_341 (by decide) (fun z1 tz1 => ?_)
  refine s_iadd C dL_law_342 (by omega) (fun z2 tz2 => ?_)
  refine s_sld C SX (by omega) dL_law_343 ?_
  refine s_aload_n C dL_law_344 rfl ?_
  refine s_iload_n C dL_law_345 rfl ?_
  refine s_iconst C dL_law_346 (by decide) (fun z3 tz3 => ?_)
  refine s_iadd C dL_law_347 (by omega) (fun z4 tz4 => ?_)
  refine s_sld C SX (by omega) dL_law_348 ?_
  refine s_aload_n C dL_law_349 rfl ?_
  refine s_iload_n C dL_law_350 rfl ?_
  refine s_iconst C dL_law_351 (by decide) (fun z5 tz5 => ?_)
  refine s_iadd C dL_law_352 (by omega) (fun z6 tz6 => ?_)
  refine s_sld C SX (by omega) dL_law_353 ?_
  refine s_callVI (st := []) C (c_X9_take l ad σ ((xs z2.toNatClampNeg)) ((xs z4.toNatClampNeg)) ((xs z6.toNatClampNeg)) hXσ) cv_L_31 y0 rfl rfl rfl ⟨by decide, by decide⟩ (Nat.le_of_ble_eq_true rfl) dL_law_354 ?_
  intro r7 τ8 h9
  have hXτ8 := h9.1
  have gτ8 := Fr.ge h9.2.1 (by decide) (by decide)
  have hIτ8 : IM τ8.1 := IM.of gτ8 hIσ
  have hRτ8 : RlA τ8.1 := RlA.keep hRσ h9.2.1 (by decide) (by decide) (by decide) (by decide) (by decide)
  have hCτ8 : RlC τ8.1 := RlC.keep hCσ h9.2.1 (by decide) (by decide) (by decide) (by decide)
  refine s_pop C dL_law_357 rfl ?_
  refine s_aload_n C dL_law_358 rfl ?_
  refine s_aload_n C dL_law_359 rfl ?_
  refine s_iload_n C dL_law_360 rfl ?_
  refine s_iconst C dL_law_361 (by decide) (fun z10 tz10 => ?_)
  refine s_iadd C dL_law_362 (by omega) (fun z11 tz11 => ?_)
  rw [show z11 = z2 from ceq (by omega)]
  refine s_sld C SX (by omega) dL_law_363 ?_
  refine s_aload_n C dL_law_364 rfl ?_
  refine s_iload_n C dL_law_365 rfl ?_
  refine s_iconst C dL_law_366 (by decide) (fun z12 tz12 => ?_)
  refine s_iadd C dL_law_367 (by omega) (fun z13 tz13 => ?_)
  rw [show z13 = z4 from ceq (by omega)]
  refine s_sld C SX (by omega) dL_law_368 ?_
  refine s_aload_n C dL_law_369 rfl ?_
  refine s_iload_n C dL_law_370 rfl ?_
  refine s_iconst C dL_law_371 (by decide) (fun z14 tz14 => ?_)
  refine s_iadd C dL_law_372 (by omega) (fun z15 tz15 => ?_)
  rw [show z15 = z6 from ceq (by omega)]
  refine s_sld C SX (by omega) dL_law_373 ?_
  refine s_callVI (st := []) C (c_X10_take l ad τ8 ((xs z2.toNatClampNeg)) ((xs z4.toNatClampNeg)) ((xs z6.toNatClampNeg)) hIτ8) cv_L_35 y71 rfl rfl rfl ⟨by decide, by decide⟩ (Nat.le_of_ble_eq_true rfl) dL_law_374 ?_
  intro r16 τ17 h18
  have hIτ17 := h18.1
  have gτ17 := Fr.lt h18.2 (by decide) (by decide)
  have hXτ17 : IX τ17.1 := IX.of gτ17 hXτ8
  have hRτ17 : RlA τ17.1 := RlA.keep hRτ8 h18.2 (by decide) (by decide) (by decide) (by decide) (by decide)
  have hCτ17 : RlC τ17.1 := RlC.keep hCτ8 h18.2 (by decide) (by decide) (by decide) (by decide)
  refine s_pop C dL_law_377 rfl ?_
  refine s_goto (tgt := 1452) C dL_law_378 (by decide) ?_
  exact K τ17 hXτ17 hIτ17 hRτ17 hCτ17
set_option maxRecDepth 100000 in
theorem lw_back (l : Launch) (ad : Nat → Nat) (E : Ev) (C : Cx E l room_1 4 cL_law RL) (hN : Nx E (.methodLinkNest RX9 239 yX1_readCondition "RunCuts")) (b L : Nat) (xs : Nat → Int32) (SX : Sx E b L xs) (hL : L ≤ 2560) (σ : Sg) (hXσ : IX σ.1) (hIσ : IM σ.1) (hRσ : RlA σ.1) (hCσ : RlC σ.1) (i : Int32) (hi : 0 ≤ i.toInt ∧ i.toInt + 5 ≤ L) (K : ∀ τ : Sg, IX τ.1 → IM τ.1 → RlA τ.1 → RlC τ.1 → WP E ad 1452 [some (.ref b), some (.ref (ad 0)), some (.ref (ad 71)), some (.int i)] [] τ) : WP E ad 381 [some (.ref b), some (.ref (ad 0)), some (.ref (ad 71)), some (.int i)] [] σ := by
  refine s_aload_n C dL_law_381 rfl ?_
  refine s_callVI (st := []) C (c_X9_back l ad σ  hXσ) cv_L_36 y0 rfl rfl rfl ⟨by decide, by decide⟩ (Nat.le_of_ble_eq_true rfl) dL_law_382 ?_
  intro r1 τ2 h3
  have hXτ2 := h3.1
  have gτ2 := Fr.ge h3.2.1 (by decide) (by decide)
  have hIτ2 : IM τ2.1 := IM.of gτ2 hIσ
  have hRτ2 : RlA τ2.1 := RlA.keep hRσ h3.2.1 (by decide) (by decide) (by decide) (by decide) (by decide)
  have hCτ2 : RlC τ2.1 := RlC.keep hCσ h3.2.1 (by decide) (by decide) (by decide) (by decide)
  refine s_pop C dL_law_385 rfl ?_
  refine s_aload_n C dL_law_386 rfl ?_
  refine s_callVI (st := []) C (c_X10_back l ad τ2  hIτ2) cv_L_40 y71 rfl rfl rfl ⟨by decide, by decide⟩ (Nat.le_of_ble_eq_true rfl) dL_law_387 ?_
  intro r4 τ5 h6
  have hIτ5 := h6.1
  have gτ5 := Fr.lt h6.2 (by decide) (by decide)
  have hXτ5 : IX τ5.1 := IX.of gτ5 hXτ2
  have hRτ5 : RlA τ5.1 := RlA.keep hRτ2 h6.2 (by decide) (by decide) (by decide) (by decide) (by decide)
  have hCτ5 : RlC τ5.1 := RlC.keep hCτ2 h6.2 (by decide) (by decide) (by decide) (by decide)
  refine s_pop C dL_law_390 rfl ?_
  refine s_goto (tgt := 1452) C dL_law_391 (by decide) ?_
  exact K τ5 hXτ5 hIτ5 hRτ5 hCτ5
set_option maxRecDepth 100000 in
theorem lw_eventOf (l : Launch) (ad : Nat → Nat) (E : Ev) (C : Cx E l room_1 4 cL_law RL) (hN : Nx E (.methodLinkNest RX9 239 yX1_readCondition "RunCuts")) (b L : Nat) (xs : Nat → Int32) (SX : Sx E b L xs) (hL : L ≤ 2560) (σ : Sg) (hXσ : IX σ.1) (hIσ : IM σ.1) (hRσ : RlA σ.1) (hCσ : RlC σ.1) (i : Int32) (hi : 0 ≤ i.toInt ∧ i.toInt + 5 ≤ L) (K : ∀ τ : Sg, IX τ.1 → IM τ.1 → RlA τ.1 → RlC τ.1 → WP E ad 1452 [some (.ref b), some (.ref (ad 0)), some (.ref (ad 71)), some (.int i)] [] τ) : WP E ad 394 [some (.ref b), some (.ref (ad 0)), some (.ref (ad 71)), some (.int i)] [] σ := by
  refine s_aload_n C dL_law_394 rfl ?_
  refine s_aload_n C dL_law_395 rfl ?_
  refine s_iload_n C dL_law_396 rfl ?_
  refine s_iconst C dL_law_397 (by decide) (fun z1 tz1 => ?_)
  refine s_iadd C dL_law_398 (by omega) (fun z2 tz2 => ?_)
  refine s_sld C SX (by omega) dL_law_399 ?_
  refine s_aload_n C dL_law_400 rfl ?_
  refine s_iload_n C dL_law_401 rfl ?_
  refine s_iconst C dL_law_402 (by decide) (fun z3 tz3 => ?_)
  refine s_iadd C dL_law_403 (by omega) (fun z4 tz4 => ?_)
  refine s_sld C SX (by omega) dL_law_404 ?_
  refine s_aload_n C dL_law_405 rfl ?_
  refine s_iload_n C dL_law_406 rfl ?_
  refine s_iconst C dL_law_407 (by decide) (fun z5 tz5 => ?_)
  refine s_iadd C dL_law_408 (by omega) (fun z6 tz6 => ?_)
  refine s_sld C SX (by omega) dL_law_409 ?_
  refine s_callVI (st := []) C (c_X9_eventOf l ad σ ((xs z2.toNatClampNeg)) ((xs z4.toNatClampNeg)) ((xs z6.toNatClampNeg)) hXσ) cv_L_41 y0 rfl rfl rfl ⟨by decide, by decide⟩ (Nat.le_of_ble_eq_true rfl) dL_law_410 ?_
  intro r7 τ8 h9
  obtain ⟨eh9, h9⟩ := h9; replace eh9 := eh9.symm; subst eh9
  refine s_pop C dL_law_413 rfl ?_
  refine s_aload_n C dL_law_414 rfl ?_
  refine s_aload_n C dL_law_415 rfl ?_
  refine s_iload_n C dL_law_416 rfl ?_
  refine s_iconst C dL_law_417 (by decide) (fun z10 tz10 => ?_)
  refine s_iadd C dL_law_418 (by omega) (fun z11 tz11 => ?_)
  rw [show z11 = z2 from ceq (by omega)]
  refine s_sld C SX (by omega) dL_law_419 ?_
  refine s_aload_n C dL_law_420 rfl ?_
  refine s_iload_n C dL_law_421 rfl ?_
  refine s_iconst C dL_law_422 (by decide) (fun z12 tz12 => ?_)
  refine s_iadd C dL_law_423 (by omega) (fun z13 tz13 => ?_)
  rw [show z13 = z4 from ceq (by omega)]
  refine s_sld C SX (by omega) dL_law_424 ?_
  refine s_aload_n C dL_law_425 rfl ?_
  refine s_iload_n C dL_law_426 rfl ?_
  refine s_iconst C dL_law_427 (by decide) (fun z14 tz14 => ?_)
  refine s_iadd C dL_law_428 (by omega) (fun z15 tz15 => ?_)
  rw [show z15 = z6 from ceq (by omega)]
  refine s_sld C SX (by omega) dL_law_429 ?_
  refine s_callVI (st := []) C (c_X10_eventOf l ad σ ((xs z2.toNatClampNeg)) ((xs z4.toNatClampNeg)) ((xs z6.toNatClampNeg)) hIσ) cv_L_44 y71 rfl rfl rfl ⟨by decide, by decide⟩ (Nat.le_of_ble_eq_true rfl) dL_law_430 ?_
  intro r16 τ17 h18
  obtain ⟨eh18, h18⟩ := h18; replace eh18 := eh18.symm; subst eh18
  refine s_pop C dL_law_433 rfl ?_
  refine s_goto (tgt := 1452) C dL_law_434 (by decide) ?_
  exact K σ hXσ hIσ hRσ hCσ
set_option maxRecDepth 100000 in
theorem lw_clock (l : Launch) (ad : Nat → Nat) (E : Ev) (C : Cx E l room_1 4 cL_law RL) (hN : Nx E (.methodLinkNest RX9 239 yX1_readCondition "RunCuts")) (b L : Nat) (xs : Nat → Int32) (SX : Sx E b L xs) (hL : L ≤ 2560) (σ : Sg) (hXσ : IX σ.1) (hIσ : IM σ.1) (hRσ : RlA σ.1) (hCσ : RlC σ.1) (i : Int32) (hi : 0 ≤ i.toInt ∧ i.toInt + 5 ≤ L) (K : ∀ τ : Sg, IX τ.1 → IM τ.1 → RlA τ.1 → RlC τ.1 → WP E ad 1452 [some (.ref b), some (.ref (ad 0)), some (.ref (ad 71)), some (.int i)] [] τ) : WP E ad 437 [some (.ref b), some (.ref (ad 0)), some (.ref (ad 71)), some (.int i)] [] σ := by
  refine s_aload_n C dL_law_437 rfl ?_
  refine s_aload_n C dL_law_438 rfl ?_
  refine s_iload_n C dL_law_439 rfl ?_
  refine s_iconst C dL_law_440 (by decide) (fun z1 tz1 => ?_)
  refine s_iadd C dL_law_441 (by omega) (fun z2 tz2 => ?_)
  refine s_sld C SX (by omega) dL_law_442 ?_
  refine s_aload_n C dL_law_443 rfl ?_
  refine s_iload_n C dL_law_444 rfl ?_
  refine s_iconst C dL_law_445 (by decide) (fun z3 tz3 => ?_)
  refine s_iadd C dL_law_446 (by omega) (fun z4 tz4 => ?_)
  refine s_sld C SX (by omega) dL_law_447 ?_
  refine s_aload_n C dL_law_448 rfl ?_
  refine s_iload_n C dL_law_449 rfl ?_
  refine s_iconst C dL_law_450 (by decide) (fun z5 tz5 => ?_)
  refine s_iadd C dL_law_451 (by omega) (fun z6 tz6 => ?_)
  refine s_sld C SX (by omega) dL_law_452 ?_
  refine s_callVI (st := []) C (c_X9_clock l ad σ ((xs z2.toNatClampNeg)) ((xs z4.toNatClampNeg)) ((xs z6.toNatClampNeg)) hXσ) cv_L_45 y0 rfl rfl rfl ⟨by decide, by decide⟩ (Nat.le_of_ble_eq_true rfl) dL_law_453 ?_
  intro r7 τ8 h9
  obtain ⟨eh9, h9⟩ := h9; replace eh9 := eh9.symm; subst eh9
  refine s_pop C dL_law_456 rfl ?_
  refine s_aload_n C dL_law_457 rfl ?_
  refine s_aload_n C dL_law_458 rfl ?_
  refine s_iload_n C dL_law_459 rfl ?_
  refine s_iconst C dL_law_460 (by decide) (fun z10 tz10 => ?_)
  refine s_iadd C dL_law_461 (by omega) (fun z11 tz11 => ?_)
  rw [show z11 = z2 from ceq (by omega)]
  refine s_sld C SX (by omega) dL_law_462 ?_
  refine s_aload_n C dL_law_463 rfl ?_
  refine s_iload_n C dL_law_464 rfl ?_
  refine s_iconst C dL_law_465 (by decide) (fun z12 tz12 => ?_)
  refine s_iadd C dL_law_466 (by omega) (fun z13 tz13 => ?_)
  rw [show z13 = z4 from ceq (by omega)]
  refine s_sld C SX (by omega) dL_law_467 ?_
  refine s_aload_n C dL_law_468 rfl ?_
  refine s_iload_n C dL_law_469 rfl ?_
  refine s_iconst C dL_law_470 (by decide) (fun z14 tz14 => ?_)
  refine s_iadd C dL_law_471 (by omega) (fun z15 tz15 => ?_)
  rw [show z15 = z6 from ceq (by omega)]
  refine s_sld C SX (by omega) dL_law_472 ?_
  refine s_callVI (st := []) C (c_X10_clock l ad σ ((xs z2.toNatClampNeg)) ((xs z4.toNatClampNeg)) ((xs z6.toNatClampNeg)) hIσ) cv_L_48 y71 rfl rfl rfl ⟨by decide, by decide⟩ (Nat.le_of_ble_eq_true rfl) dL_law_473 ?_
  intro r16 τ17 h18
  obtain ⟨eh18, h18⟩ := h18; replace eh18 := eh18.symm; subst eh18
  refine s_pop C dL_law_476 rfl ?_
  refine s_goto (tgt := 1452) C dL_law_477 (by decide) ?_
  exact K σ hXσ hIσ hRσ hCσ
set_option maxRecDepth 100000 in
theorem lw_ahead (l : Launch) (ad : Nat → Nat) (E : Ev) (C : Cx E l room_1 4 cL_law RL) (hN : Nx E (.methodLinkNest RX9 239 yX1_readCondition "RunCuts")) (b L : Nat) (xs : Nat → Int32) (SX : Sx E b L xs) (hL : L ≤ 2560) (σ : Sg) (hXσ : IX σ.1) (hIσ : IM σ.1) (hRσ : RlA σ.1) (hCσ : RlC σ.1) (i : Int32) (hi : 0 ≤ i.toInt ∧ i.toInt + 5 ≤ L) (K : ∀ τ : Sg, IX τ.1 → IM τ.1 → RlA τ.1 → RlC τ.1 → WP E ad 1452 [some (.ref b), some (.ref (ad 0)), some (.ref (ad 71)), some (.int i)] [] τ) : WP E ad 480 [some (.ref b), some (.ref (ad 0)), some (.ref (ad 71)), some (.int i)] [] σ := by
  refine s_aload_n C dL_law_480 rfl ?_
  refine s_aload_n C dL_law_481 rfl ?_
  refine s_iload_n C dL_law_482 rfl ?_
  refine s_iconst C dL_law_483 (by decide) (fun z1 tz1 => ?_)
  refine s_iadd C dL_law_484 (by omega) (fun z2 tz2 => ?_)
  refine s_sld C SX (by omega) dL_law_485 ?_
  refine s_aload_n C dL_law_486 rfl ?_
  refine s_iload_n C dL_law_487 rfl ?_
  refine s_iconst C dL_law_488 (by decide) (fun z3 tz3 => ?_)
  refine s_iadd C dL_law_489 (by omega) (fun z4 tz4 => ?_)
  refine s_sld C SX (by omega) dL_law_490 ?_
  refine s_aload_n C dL_law_491 rfl ?_
  refine s_iload_n C dL_law_492 rfl ?_
  refine s_iconst C dL_law_493 (by decide) (fun z5 tz5 => ?_)
  refine s_iadd C dL_law_494 (by omega) (fun z6 tz6 => ?_)
  refine s_sld C SX (by omega) dL_law_495 ?_
  refine s_aload_n C dL_law_496 rfl ?_
  refine s_iload_n C dL_law_497 rfl ?_
  refine s_iconst C dL_law_498 (by decide) (fun z7 tz7 => ?_)
  refine s_iadd C dL_law_499 (by omega) (fun z8 tz8 => ?_)
  refine s_sld C SX (by omega) dL_law_500 ?_
  refine s_callVI (st := []) C (c_X9_ahead l ad σ ((xs z2.toNatClampNeg)) ((xs z4.toNatClampNeg)) ((xs z6.toNatClampNeg)) ((xs z8.toNatClampNeg)) hXσ) cv_L_49 y0 rfl rfl rfl ⟨by decide, by decide⟩ (Nat.le_of_ble_eq_true rfl) dL_law_501 ?_
  intro r9 τ10 h11
  obtain ⟨eh11, h11⟩ := h11; replace eh11 := eh11.symm; subst eh11
  refine s_pop C dL_law_504 rfl ?_
  refine s_aload_n C dL_law_505 rfl ?_
  refine s_aload_n C dL_law_506 rfl ?_
  refine s_iload_n C dL_law_507 rfl ?_
  refine s_iconst C dL_law_508 (by decide) (fun z12 tz12 => ?_)
  refine s_iadd C dL_law_509 (by omega) (fun z13 tz13 => ?_)
  rw [show z13 = z2 from ceq (by omega)]
  refine s_sld C SX (by omega) dL_law_510 ?_
  refine s_aload_n C dL_law_511 rfl ?_
  refine s_iload_n C dL_law_512 rfl ?_
  refine s_iconst C dL_law_513 (by decide) (fun z14 tz14 => ?_)
  refine s_iadd C dL_law_514 (by omega) (fun z15 tz15 => ?_)
  rw [show z15 = z4 from ceq (by omega)]
  refine s_sld C SX (by omega) dL_law_515 ?_
  refine s_aload_n C dL_law_516 rfl ?_
  refine s_iload_n C dL_law_517 rfl ?_
  refine s_iconst C dL_law_518 (by decide) (fun z16 tz16 => ?_)
  refine s_iadd C dL_law_519 (by omega) (fun z17 tz17 => ?_)
  rw [show z17 = z6 from ceq (by omega)]
  refine s_sld C SX (by omega) dL_law_520 ?_
  refine s_aload_n C dL_law_521 rfl ?_
  refine s_iload_n C dL_law_522 rfl ?_
  refine s_iconst C dL_law_523 (by decide) (fun z18 tz18 => ?_)
  refine s_iadd C dL_law_524 (by omega) (fun z19 tz19 => ?_)
  rw [show z19 = z8 from ceq (by omega)]
  refine s_sld C SX (by omega) dL_law_525 ?_
  refine s_callVI (st := []) C (c_X10_ahead l ad σ ((xs z2.toNatClampNeg)) ((xs z4.toNatClampNeg)) ((xs z6.toNatClampNeg)) ((xs z8.toNatClampNeg)) hIσ) cv_L_53 y71 rfl rfl rfl ⟨by decide, by decide⟩ (Nat.le_of_ble_eq_true rfl) dL_law_526 ?_
  intro r20 τ21 h22
  obtain ⟨eh22, h22⟩ := h22; replace eh22 := eh22.symm; subst eh22
  refine s_pop C dL_law_529 rfl ?_
  refine s_goto (tgt := 1452) C dL_law_530 (by decide) ?_
  exact K σ hXσ hIσ hRσ hCσ
set_option maxRecDepth 100000 in
theorem lw_message (l : Launch) (ad : Nat → Nat) (E : Ev) (C : Cx E l room_1 4 cL_law RL) (hN : Nx E (.methodLinkNest RX9 239 yX1_readCondition "RunCuts")) (b L : Nat) (xs : Nat → Int32) (SX : Sx E b L xs) (hL : L ≤ 2560) (σ : Sg) (hXσ : IX σ.1) (hIσ : IM σ.1) (hRσ : RlA σ.1) (hCσ : RlC σ.1) (i : Int32) (hi : 0 ≤ i.toInt ∧ i.toInt + 5 ≤ L) (K : ∀ τ : Sg, IX τ.1 → IM τ.1 → RlA τ.1 → RlC τ.1 → WP E ad 1452 [some (.ref b), some (.ref (ad 0)), some (.ref (ad 71)), some (.int i)] [] τ) : WP E ad 533 [some (.ref b), some (.ref (ad 0)), some (.ref (ad 71)), some (.int i)] [] σ := by
  refine s_aload_n C dL_law_533 rfl ?_
  refine s_aload_n C dL_law_534 rfl ?_
  refine s_iload_n C dL_law_535 rfl ?_
  refine s_iconst C dL_law_536 (by decide) (fun z1 tz1 => ?_)
  refine s_iadd C dL_law_537 (by omega) (fun z2 tz2 => ?_)
  refine s_sld C SX (by omega) dL_law_538 ?_
  refine s_aload_n C dL_law_539 rfl ?_
  refine s_iload_n C dL_law_540 rfl ?_
  refine s_iconst C dL_law_541 (by decide) (fun z3 tz3 => ?_)
  refine s_iadd C dL_law_542 (by omega) (fun z4 tz4 => ?_)
  refine s_sld C SX (by omega) dL_law_543 ?_
  refine s_callVI (st := []) C (c_X9_message l ad σ ((xs z2.toNatClampNeg)) ((xs z4.toNatClampNeg)) hXσ) cv_L_54 y0 rfl rfl rfl ⟨by decide, by decide⟩ (Nat.le_of_ble_eq_true rfl) dL_law_544 ?_
  intro r5 τ6 h7
  obtain ⟨eh7, h7⟩ := h7; replace eh7 := eh7.symm; subst eh7
  refine s_pop C dL_law_547 rfl ?_
  refine s_aload_n C dL_law_548 rfl ?_
  refine s_aload_n C dL_law_549 rfl ?_
  refine s_iload_n C dL_law_550 rfl ?_
  refine s_iconst C dL_law_551 (by decide) (fun z8 tz8 => ?_)
  refine s_iadd C dL_law_552 (by omega) (fun z9 tz9 => ?_)
  rw [show z9 = z2 from ceq (by omega)]
  refine s_sld C SX (by omega) dL_law_553 ?_
  refine s_aload_n C dL_law_554 rfl ?_
  refine s_iload_n C dL_law_555 rfl ?_
  refine s_iconst C dL_law_556 (by decide) (fun z10 tz10 => ?_)
  refine s_iadd C dL_law_557 (by omega) (fun z11 tz11 => ?_)
  rw [show z11 = z4 from ceq (by omega)]
  refine s_sld C SX (by omega) dL_law_558 ?_
  refine s_callVI (st := []) C (c_X10_message l ad σ ((xs z2.toNatClampNeg)) ((xs z4.toNatClampNeg)) hIσ) cv_L_57 y71 rfl rfl rfl ⟨by decide, by decide⟩ (Nat.le_of_ble_eq_true rfl) dL_law_559 ?_
  intro r12 τ13 h14
  obtain ⟨eh14, h14⟩ := h14; replace eh14 := eh14.symm; subst eh14
  refine s_pop C dL_law_562 rfl ?_
  refine s_goto (tgt := 1452) C dL_law_563 (by decide) ?_
  exact K σ hXσ hIσ hRσ hCσ
set_option maxRecDepth 100000 in
theorem lw_cuts (l : Launch) (ad : Nat → Nat) (E : Ev) (C : Cx E l room_1 4 cL_law RL) (hN : Nx E (.methodLinkNest RX9 239 yX1_readCondition "RunCuts")) (b L : Nat) (xs : Nat → Int32) (SX : Sx E b L xs) (hL : L ≤ 2560) (σ : Sg) (hXσ : IX σ.1) (hIσ : IM σ.1) (hRσ : RlA σ.1) (hCσ : RlC σ.1) (i : Int32) (hi : 0 ≤ i.toInt ∧ i.toInt + 5 ≤ L) (K : ∀ τ : Sg, IX τ.1 → IM τ.1 → RlA τ.1 → RlC τ.1 → WP E ad 1452 [some (.ref b), some (.ref (ad 0)), some (.ref (ad 71)), some (.int i)] [] τ) : WP E ad 566 [some (.ref b), some (.ref (ad 0)), some (.ref (ad 71)), some (.int i)] [] σ := by
  refine s_aload_n C dL_law_566 rfl ?_
  refine s_callVI (st := []) C (c_X9_cuts l ad σ  hXσ) cv_L_58 y0 rfl rfl rfl ⟨by decide, by decide⟩ (Nat.le_of_ble_eq_true rfl) dL_law_567 ?_
  intro r1 τ2 h3
  have hXτ2 := h3.1
  have gτ2 := Fr.ge h3.2.1 (by decide) (by decide)
  have hIτ2 : IM τ2.1 := IM.of gτ2 hIσ
  have hRτ2 : RlA τ2.1 := RlA.keep hRσ h3.2.1 (by decide) (by decide) (by decide) (by decide) (by decide)
  have hCτ2 : RlC τ2.1 := RlC.keep hCσ h3.2.1 (by decide) (by decide) (by decide) (by decide)
  refine s_pop C dL_law_570 rfl ?_
  refine s_aload_n C dL_law_571 rfl ?_
  refine s_callVI (st := []) C (c_X10_cuts l ad τ2  hIτ2) cv_L_61 y71 rfl rfl rfl ⟨by decide, by decide⟩ (Nat.le_of_ble_eq_true rfl) dL_law_572 ?_
  intro r4 τ5 h6
  have hIτ5 := h6.1
  have gτ5 := Fr.lt h6.2.1 (by decide) (by decide)
  have hXτ5 : IX τ5.1 := IX.of gτ5 hXτ2
  have hRτ5 : RlA τ5.1 := RlA.keep hRτ2 h6.2.1 (by decide) (by decide) (by decide) (by decide) (by decide)
  have hCτ5 : RlC τ5.1 := RlC.keep hCτ2 h6.2.1 (by decide) (by decide) (by decide) (by decide)
  refine s_pop C dL_law_575 rfl ?_
  refine s_goto (tgt := 1452) C dL_law_576 (by decide) ?_
  exact K τ5 hXτ5 hIτ5 hRτ5 hCτ5
set_option maxRecDepth 100000 in
theorem lw_cut (l : Launch) (ad : Nat → Nat) (E : Ev) (C : Cx E l room_1 4 cL_law RL) (hN : Nx E (.methodLinkNest RX9 239 yX1_readCondition "RunCuts")) (b L : Nat) (xs : Nat → Int32) (SX : Sx E b L xs) (hL : L ≤ 2560) (σ : Sg) (hXσ : IX σ.1) (hIσ : IM σ.1) (hRσ : RlA σ.1) (hCσ : RlC σ.1) (i : Int32) (hi : 0 ≤ i.toInt ∧ i.toInt + 5 ≤ L) (K : ∀ τ : Sg, IX τ.1 → IM τ.1 → RlA τ.1 → RlC τ.1 → WP E ad 1452 [some (.ref b), some (.ref (ad 0)), some (.ref (ad 71)), some (.int i)] [] τ) : WP E ad 579 [some (.ref b), some (.ref (ad 0)), some (.ref (ad 71)), some (.int i)] [] σ := by
  refine s_aload_n C dL_law_579 rfl ?_
  refine s_aload_n C dL_law_580 rfl ?_
  refine s_iload_n C dL_law_581 rfl ?_
  refine s_iconst C dL_law_582 (by decide) (fun z1 tz1 => ?_)
  refine s_iadd C dL_law_583 (by omega) (fun z2 tz2 => ?_)
  refine s_sld C SX (by omega) dL_law_584 ?_
  refine s_callVI (st := []) C (c_X9_cut l ad σ ((xs z2.toNatClampNeg)) hXσ) cv_L_62 y0 rfl rfl rfl ⟨by decide, by decide⟩ (Nat.le_of_ble_eq_true rfl) dL_law_585 ?_
  intro r3 τ4 h5
  have hXτ4 := h5.1
  have gτ4 := Fr.ge h5.2.1 (by decide) (by decide)
  have hIτ4 : IM τ4.1 := IM.of gτ4 hIσ
  have hRτ4 : RlA τ4.1 := RlA.keep hRσ h5.2.1 (by decide) (by decide) (by decide) (by decide) (by decide)
  have hCτ4 : RlC τ4.1 := RlC.keep hCσ h5.2.1 (by decide) (by decide) (by decide) (by decide)
  refine s_pop C dL_law_588 rfl ?_
  refine s_aload_n C dL_law_589 rfl ?_
  refine s_aload_n C dL_law_590 rfl ?_
  refine s_iload_n C dL_law_591 rfl ?_
  refine s_iconst C dL_law_592 (by decide) (fun z6 tz6 => ?_)
  refine s_iadd C dL_law_593 (by omega) (fun z7 tz7 => ?_)
  rw [show z7 = z2 from ceq (by omega)]
  refine s_sld C SX (by omega) dL_law_594 ?_
  refine s_callVI (st := []) C (c_X10_cut l ad τ4 ((xs z2.toNatClampNeg)) hIτ4) cv_L_65 y71 rfl rfl rfl ⟨by decide, by decide⟩ (Nat.le_of_ble_eq_true rfl) dL_law_595 ?_
  intro r8 τ9 h10
  have hIτ9 := h10.1
  have gτ9 := Fr.lt h10.2.1 (by decide) (by decide)
  have hXτ9 : IX τ9.1 := IX.of gτ9 hXτ4
  have hRτ9 : RlA τ9.1 := RlA.keep hRτ4 h10.2.1 (by decide) (by decide) (by decide) (by decide) (by decide)
  have hCτ9 : RlC τ9.1 := RlC.keep hCτ4 h10.2.1 (by decide) (by decide) (by decide) (by decide)
  refine s_pop C dL_law_598 rfl ?_
  refine s_goto (tgt := 1452) C dL_law_599 (by decide) ?_
  exact K τ9 hXτ9 hIτ9 hRτ9 hCτ9
set_option maxRecDepth 100000 in
theorem lw_which (l : Launch) (ad : Nat → Nat) (E : Ev) (C : Cx E l room_1 4 cL_law RL) (hN : Nx E (.methodLinkNest RX9 239 yX1_readCondition "RunCuts")) (b L : Nat) (xs : Nat → Int32) (SX : Sx E b L xs) (hL : L ≤ 2560) (σ : Sg) (hXσ : IX σ.1) (hIσ : IM σ.1) (hRσ : RlA σ.1) (hCσ : RlC σ.1) (i : Int32) (hi : 0 ≤ i.toInt ∧ i.toInt + 5 ≤ L) (K : ∀ τ : Sg, IX τ.1 → IM τ.1 → RlA τ.1 → RlC τ.1 → WP E ad 1452 [some (.ref b), some (.ref (ad 0)), some (.ref (ad 71)), some (.int i)] [] τ) : WP E ad 602 [some (.ref b), some (.ref (ad 0)), some (.ref (ad 71)), some (.int i)] [] σ := by
  refine s_aload_n C dL_law_602 rfl ?_
  refine s_aload_n C dL_law_603 rfl ?_
  refine s_iload_n C dL_law_604 rfl ?_
  refine s_iconst C dL_law_605 (by decide) (fun z1 tz1 => ?_)
  refine s_iadd C dL_law_606 (by omega) (fun z2 tz2 => ?_)
  refine s_sld C SX (by omega) dL_law_607 ?_
  refine s_callVI (st := []) C (c_X9_which l ad σ ((xs z2.toNatClampNeg)) hXσ) cv_L_66 y0 rfl rfl rfl ⟨by decide, by decide⟩ (Nat.le_of_ble_eq_true rfl) dL_law_608 ?_
  intro r3 τ4 h5
  have hXτ4 := h5.1
  have gτ4 := Fr.ge h5.2.1 (by decide) (by decide)
  have hIτ4 : IM τ4.1 := IM.of gτ4 hIσ
  have hRτ4 : RlA τ4.1 := RlA.keep hRσ h5.2.1 (by decide) (by decide) (by decide) (by decide) (by decide)
  have hCτ4 : RlC τ4.1 := RlC.keep hCσ h5.2.1 (by decide) (by decide) (by decide) (by decide)
  refine s_pop C dL_law_611 rfl ?_
  refine s_aload_n C dL_law_612 rfl ?_
  refine s_aload_n C dL_law_613 rfl ?_
  refine s_iload_n C dL_law_614 rfl ?_
  refine s_iconst C dL_law_615 (by decide) (fun z6 tz6 => ?_)
  refine s_iadd C dL_law_616 (by omega) (fun z7 tz7 => ?_)
  rw [show z7 = z2 from ceq (by omega)]
  refine s_sld C SX (by omega) dL_law_617 ?_
  refine s_callVI (st := []) C (c_X10_which l ad τ4 ((xs z2.toNatClampNeg)) hIτ4) cv_L_69 y71 rfl rfl rfl ⟨by decide, by decide⟩ (Nat.le_of_ble_eq_true rfl) dL_law_618 ?_
  intro r8 τ9 h10
  have hIτ9 := h10.1
  have gτ9 := Fr.lt h10.2.1 (by decide) (by decide)
  have hXτ9 : IX τ9.1 := IX.of gτ9 hXτ4
  have hRτ9 : RlA τ9.1 := RlA.keep hRτ4 h10.2.1 (by decide) (by decide) (by decide) (by decide) (by decide)
  have hCτ9 : RlC τ9.1 := RlC.keep hCτ4 h10.2.1 (by decide) (by decide) (by decide) (by decide)
  refine s_pop C dL_law_621 rfl ?_
  refine s_goto (tgt := 1452) C dL_law_622 (by decide) ?_
  exact K τ9 hXτ9 hIτ9 hRτ9 hCτ9
set_option maxRecDepth 100000 in
theorem lw_level (l : Launch) (ad : Nat → Nat) (E : Ev) (C : Cx E l room_1 4 cL_law RL) (hN : Nx E (.methodLinkNest RX9 239 yX1_readCondition "RunCuts")) (b L : Nat) (xs : Nat → Int32) (SX : Sx E b L xs) (hL : L ≤ 2560) (σ : Sg) (hXσ : IX σ.1) (hIσ : IM σ.1) (hRσ : RlA σ.1) (hCσ : RlC σ.1) (i : Int32) (hi : 0 ≤ i.toInt ∧ i.toInt + 5 ≤ L) (K : ∀ τ : Sg, IX τ.1 → IM τ.1 → RlA τ.1 → RlC τ.1 → WP E ad 1452 [some (.ref b), some (.ref (ad 0)), some (.ref (ad 71)), some (.int i)] [] τ) : WP E ad 625 [some (.ref b), some (.ref (ad 0)), some (.ref (ad 71)), some (.int i)] [] σ := by
  refine s_aload_n C dL_law_625 rfl ?_
  refine s_aload_n C dL_law_626 rfl ?_
  refine s_iload_n C dL_law_627 rfl ?_
  refine s_iconst C dL_law_628 (by decide) (fun z1 tz1 => ?_)
  refine s_iadd C dL_law_629 (by omega) (fun z2 tz2 => ?_)
  refine s_sld C SX (by omega) dL_law_630 ?_
  refine s_callVI (st := []) C (c_X9_level l ad σ ((xs z2.toNatClampNeg)) hXσ) cv_L_70 y0 rfl rfl rfl ⟨by decide, by decide⟩ (Nat.le_of_ble_eq_true rfl) dL_law_631 ?_
  intro r3 τ4 h5
  have hXτ4 := h5.1
  have gτ4 := Fr.ge h5.2.1 (by decide) (by decide)
  have hIτ4 : IM τ4.1 := IM.of gτ4 hIσ
  have hRτ4 : RlA τ4.1 := RlA.keep hRσ h5.2.1 (by decide) (by decide) (by decide) (by decide) (by decide)
  have hCτ4 : RlC τ4.1 := RlC.keep hCσ h5.2.1 (by decide) (by decide) (by decide) (by decide)
  refine s_pop C dL_law_634 rfl ?_
  refine s_aload_n C dL_law_635 rfl ?_
  refine s_aload_n C dL_law_636 rfl ?_
  refine s_iload_n C dL_law_637 rfl ?_
  refine s_iconst C dL_law_638 (by decide) (fun z6 tz6 => ?_)
  refine s_iadd C dL_law_639 (by omega) (fun z7 tz7 => ?_)
  rw [show z7 = z2 from ceq (by omega)]
  refine s_sld C SX (by omega) dL_law_640 ?_
  refine s_callVI (st := []) C (c_X10_level l ad τ4 ((xs z2.toNatClampNeg)) hIτ4) cv_L_73 y71 rfl rfl rfl ⟨by decide, by decide⟩ (Nat.le_of_ble_eq_true rfl) dL_law_641 ?_
  intro r8 τ9 h10
  have hIτ9 := h10.1
  have gτ9 := Fr.lt h10.2.1 (by decide) (by decide)
  have hXτ9 : IX τ9.1 := IX.of gτ9 hXτ4
  have hRτ9 : RlA τ9.1 := RlA.keep hRτ4 h10.2.1 (by decide) (by decide) (by decide) (by decide) (by decide)
  have hCτ9 : RlC τ9.1 := RlC.keep hCτ4 h10.2.1 (by decide) (by decide) (by decide) (by decide)
  refine s_pop C dL_law_644 rfl ?_
  refine s_goto (tgt := 1452) C dL_law_645 (by decide) ?_
  exact K τ9 hXτ9 hIτ9 hRτ9 hCτ9
set_option maxRecDepth 100000 in
theorem lw_next (l : Launch) (ad : Nat → Nat) (E : Ev) (C : Cx E l room_1 4 cL_law RL) (hN : Nx E (.methodLinkNest RX9 239 yX1_readCondition "RunCuts")) (b L : Nat) (xs : Nat → Int32) (SX : Sx E b L xs) (hL : L ≤ 2560) (σ : Sg) (hXσ : IX σ.1) (hIσ : IM σ.1) (hRσ : RlA σ.1) (hCσ : RlC σ.1) (i : Int32) (hi : 0 ≤ i.toInt ∧ i.toInt + 5 ≤ L) (K : ∀ τ : Sg, IX τ.1 → IM τ.1 → RlA τ.1 → RlC τ.1 → WP E ad 1452 [some (.ref b), some (.ref (ad 0)), some (.ref (ad 71)), some (.int i)] [] τ) : WP E ad 648 [some (.ref b), some (.ref (ad 0)), some (.ref (ad 71)), some (.int i)] [] σ := by
  refine s_aload_n C dL_law_648 rfl ?_
  refine s_aload_n C dL_law_649 rfl ?_
  refine s_iload_n C dL_law_650 rfl ?_
  refine s_iconst C dL_law_651 (by decide) (fun z1 tz1 => ?_)
  refine s_iadd C dL_law_652 (by omega) (fun z2 tz2 => ?_)
  refine s_sld C SX (by omega) dL_law_653 ?_
  refine s_aload_n C dL_law_654 rfl ?_
  refine s_iload_n C dL_law_655 rfl ?_
  refine s_iconst C dL_law_656 (by decide) (fun z3 tz3 => ?_)
  refine s_iadd C dL_law_657 (by omega) (fun z4 tz4 => ?_)
  refine s_sld C SX (by omega) dL_law_658 ?_
  refine s_callVI (st := []) C (c_X9_next l ad σ ((xs z2.toNatClampNeg)) ((xs z4.toNatClampNeg)) hXσ) cv_L_74 y0 rfl rfl rfl ⟨by decide, by decide⟩ (Nat.le_of_ble_eq_true rfl) dL_law_659 ?_
  intro r5 τ6 h7
  have hXτ6 := h7.1
  have gτ6 := Fr.ge h7.2.1 (by decide) (by decide)
  have hIτ6 : IM τ6.1 := IM.of gτ6 hIσ
  have hRτ6 : RlA τ6.1 := RlA.keep hRσ h7.2.1 (by decide) (by decide) (by decide) (by decide) (by decide)
  have hCτ6 : RlC τ6.1 := RlC.keep hCσ h7.2.1 (by decide) (by decide) (by decide) (by decide)
  refine s_pop C dL_law_662 rfl ?_
  refine s_aload_n C dL_law_663 rfl ?_
  refine s_aload_n C dL_law_664 rfl ?_
  refine s_iload_n C dL_law_665 rfl ?_
  refine s_iconst C dL_law_666 (by decide) (fun z8 tz8 => ?_)
  refine s_iadd C dL_law_667 (by omega) (fun z9 tz9 => ?_)
  rw [show z9 = z2 from ceq (by omega)]
  refine s_sld C SX (by omega) dL_law_668 ?_
  refine s_aload_n C dL_law_669 rfl ?_
  refine s_iload_n C dL_law_670 rfl ?_
  refine s_iconst C dL_law_671 (by decide) (fun z10 tz10 => ?_)
  refine s_iadd C dL_law_672 (by omega) (fun z11 tz11 => ?_)
  rw [show z11 = z4 from ceq (by omega)]
  refine s_sld C SX (by omega) dL_law_673 ?_
  refine s_callVI (st := []) C (c_X10_next l ad τ6 ((xs z2.toNatClampNeg)) ((xs z4.toNatClampNeg)) hIτ6) cv_L_77 y71 rfl rfl rfl ⟨by decide, by decide⟩ (Nat.le_of_ble_eq_true rfl) dL_law_674 ?_
  intro r12 τ13 h14
  have hIτ13 := h14.1
  have gτ13 := Fr.lt h14.2.1 (by decide) (by decide)
  have hXτ13 : IX τ13.1 := IX.of gτ13 hXτ6
  have hRτ13 : RlA τ13.1 := RlA.keep hRτ6 h14.2.1 (by decide) (by decide) (by decide) (by decide) (by decide)
  have hCτ13 : RlC τ13.1 := RlC.keep hCτ6 h14.2.1 (by decide) (by decide) (by decide) (by decide)
  refine s_pop C dL_law_677 rfl ?_
  refine s_goto (tgt := 1452) C dL_law_678 (by decide) ?_
  exact K τ13 hXτ13 hIτ13 hRτ13 hCτ13
set_option maxRecDepth 100000 in
theorem lw_meet (l : Launch) (ad : Nat → Nat) (E : Ev) (C : Cx E l room_1 4 cL_law RL) (hN : Nx E (.methodLinkNest RX9 239 yX1_readCondition "RunCuts")) (b L : Nat) (xs : Nat → Int32) (SX : Sx E b L xs) (hL : L ≤ 2560) (σ : Sg) (hXσ : IX σ.1) (hIσ : IM σ.1) (hRσ : RlA σ.1) (hCσ : RlC σ.1) (i : Int32) (hi : 0 ≤ i.toInt ∧ i.toInt + 5 ≤ L) (K : ∀ τ : Sg, IX τ.1 → IM τ.1 → RlA τ.1 → RlC τ.1 → WP E ad 1452 [some (.ref b), some (.ref (ad 0)), some (.ref (ad 71)), some (.int i)] [] τ) : WP E ad 681 [some (.ref b), some (.ref (ad 0)), some (.ref (ad 71)), some (.int i)] [] σ := by
  refine s_aload_n C dL_law_681 rfl ?_
  refine s_aload_n C dL_law_682 rfl ?_
  refine s_iload_n C dL_law_683 rfl ?_
  refine s_iconst C dL_law_684 (by decide) (fun z1 tz1 => ?_)
  refine s_iadd C dL_law_685 (by omega) (fun z2 tz2 => ?_)
  refine s_sld C SX (by omega) dL_law_686 ?_
  refine s_aload_n C dL_law_687 rfl ?_
  refine s_iload_n C dL_law_688 rfl ?_
  refine s_iconst C dL_law_689 (by decide) (fun z3 tz3 => ?_)
  refine s_iadd C dL_law_690 (by omega) (fun z4 tz4 => ?_)
  refine s_sld C SX (by omega) dL_law_691 ?_
  refine s_callVI (st := []) C (c_X9_meet l ad σ ((xs z2.toNatClampNeg)) ((xs z4.toNatClampNeg)) hXσ) cv_L_78 y0 rfl rfl rfl ⟨by decide, by decide⟩ (Nat.le_of_ble_eq_true rfl) dL_law_692 ?_
  intro r5 τ6 h7
  have hXτ6 := h7.1
  have gτ6 := Fr.ge h7.2.1 (by decide) (by decide)
  have hIτ6 : IM τ6.1 := IM.of gτ6 hIσ
  have hRτ6 : RlA τ6.1 := RlA.keep hRσ h7.2.1 (by decide) (by decide) (by decide) (by decide) (by decide)
  have hCτ6 : RlC τ6.1 := RlC.keep hCσ h7.2.1 (by decide) (by decide) (by decide) (by decide)
  refine s_pop C dL_law_695 rfl ?_
  refine s_aload_n C dL_law_696 rfl ?_
  refine s_aload_n C dL_law_697 rfl ?_
  refine s_iload_n C dL_law_698 rfl ?_
  refine s_iconst C dL_law_699 (by decide) (fun z8 tz8 => ?_)
  refine s_iadd C dL_law_700 (by omega) (fun z9 tz9 => ?_)
  rw [show z9 = z2 from ceq (by omega)]
  refine s_sld C SX (by omega) dL_law_701 ?_
  refine s_aload_n C dL_law_702 rfl ?_
  refine s_iload_n C dL_law_703 rfl ?_
  refine s_iconst C dL_law_704 (by decide) (fun z10 tz10 => ?_)
  refine s_iadd C dL_law_705 (by omega) (fun z11 tz11 => ?_)
  rw [show z11 = z4 from ceq (by omega)]
  refine s_sld C SX (by omega) dL_law_706 ?_
  refine s_callVI (st := []) C (c_X10_meet l ad τ6 ((xs z2.toNatClampNeg)) ((xs z4.toNatClampNeg)) hIτ6) cv_L_81 y71 rfl rfl rfl ⟨by decide, by decide⟩ (Nat.le_of_ble_eq_true rfl) dL_law_707 ?_
  intro r12 τ13 h14
  have hIτ13 := h14.1
  have gτ13 := Fr.lt h14.2.1 (by decide) (by decide)
  have hXτ13 : IX τ13.1 := IX.of gτ13 hXτ6
  have hRτ13 : RlA τ13.1 := RlA.keep hRτ6 h14.2.1 (by decide) (by decide) (by decide) (by decide) (by decide)
  have hCτ13 : RlC τ13.1 := RlC.keep hCτ6 h14.2.1 (by decide) (by decide) (by decide) (by decide)
  refine s_pop C dL_law_710 rfl ?_
  refine s_goto (tgt := 1452) C dL_law_711 (by decide) ?_
  exact K τ13 hXτ13 hIτ13 hRτ13 hCτ13
set_option maxRecDepth 100000 in
theorem lw_join (l : Launch) (ad : Nat → Nat) (E : Ev) (C : Cx E l room_1 4 cL_law RL) (hN : Nx E (.methodLinkNest RX9 239 yX1_readCondition "RunCuts")) (b L : Nat) (xs : Nat → Int32) (SX : Sx E b L xs) (hL : L ≤ 2560) (σ : Sg) (hXσ : IX σ.1) (hIσ : IM σ.1) (hRσ : RlA σ.1) (hCσ : RlC σ.1) (i : Int32) (hi : 0 ≤ i.toInt ∧ i.toInt + 5 ≤ L) (K : ∀ τ : Sg, IX τ.1 → IM τ.1 → RlA τ.1 → RlC τ.1 → WP E ad 1452 [some (.ref b), some (.ref (ad 0)), some (.ref (ad 71)), some (.int i)] [] τ) : WP E ad 714 [some (.ref b), some (.ref (ad 0)), some (.ref (ad 71)), some (.int i)] [] σ := by
  refine s_aload_n C dL_law_714 rfl ?_
  refine s_aload_n C dL_law_715 rfl ?_
  refine s_iload_n C dL_law_716 rfl ?_
  refine s_iconst C dL_law_717 (by decide) (fun z1 tz1 => ?_)
  refine s_iadd C dL_law_718 (by omega) (fun z2 tz2 => ?_)
  refine s_sld C SX (by omega) dL_law_719 ?_
  refine s_aload_n C dL_law_720 rfl ?_
  refine s_iload_n C dL_law_721 rfl ?_
  refine s_iconst C dL_law_722 (by decide) (fun z3 tz3 => ?_)
  refine s_iadd C dL_law_723 (by omega) (fun z4 tz4 => ?_)
  refine s_sld C SX (by omega) dL_law_724 ?_
  refine s_callVI (st := []) C (c_X9_join l ad σ ((xs z2.toNatClampNeg)) ((xs z4.toNatClampNeg)) hXσ) cv_L_82 y0 rfl rfl rfl ⟨by decide, by decide⟩ (Nat.le_of_ble_eq_true rfl) dL_law_725 ?_
  intro r5 τ6 h7
  have hXτ6 := h7.1
  have gτ6 := Fr.ge h7.2.1 (by decide) (by decide)
  have hIτ6 : IM τ6.1 := IM.of gτ6 hIσ
  have hRτ6 : RlA τ6.1 := RlA.keep hRσ h7.2.1 (by decide) (by decide) (by decide) (by decide) (by decide)
  have hCτ6 : RlC τ6.1 := RlC.keep hCσ h7.2.1 (by decide) (by decide) (by decide) (by decide)
  refine s_pop C dL_law_728 rfl ?_
  refine s_aload_n C dL_law_729 rfl ?_
  refine s_aload_n C dL_law_730 rfl ?_
  refine s_iload_n C dL_law_731 rfl ?_
  refine s_iconst C dL_law_732 (by decide) (fun z8 tz8 => ?_)
  refine s_iadd C dL_law_733 (by omega) (fun z9 tz9 => ?_)
  rw [show z9 = z2 from ceq (by omega)]
  refine s_sld C SX (by omega) dL_law_734 ?_
  refine s_aload_n C dL_law_735 rfl ?_
  refine s_iload_n C dL_law_736 rfl ?_
  refine s_iconst C dL_law_737 (by decide) (fun z10 tz10 => ?_)
  refine s_iadd C dL_law_738 (by omega) (fun z11 tz11 => ?_)
  rw [show z11 = z4 from ceq (by omega)]
  refine s_sld C SX (by omega) dL_law_739 ?_
  refine s_callVI (st := []) C (c_X10_join l ad τ6 ((xs z2.toNatClampNeg)) ((xs z4.toNatClampNeg)) hIτ6) cv_L_85 y71 rfl rfl rfl ⟨by decide, by decide⟩ (Nat.le_of_ble_eq_true rfl) dL_law_740 ?_
  intro r12 τ13 h14
  have hIτ13 := h14.1
  have gτ13 := Fr.lt h14.2.1 (by decide) (by decide)
  have hXτ13 : IX τ13.1 := IX.of gτ13 hXτ6
  have hRτ13 : RlA τ13.1 := RlA.keep hRτ6 h14.2.1 (by decide) (by decide) (by decide) (by decide) (by decide)
  have hCτ13 : RlC τ13.1 := RlC.keep hCτ6 h14.2.1 (by decide) (by decide) (by decide) (by decide)
  refine s_pop C dL_law_743 rfl ?_
  refine s_goto (tgt := 1452) C dL_law_744 (by decide) ?_
  exact K τ13 hXτ13 hIτ13 hRτ13 hCτ13
set_option maxRecDepth 100000 in
theorem lw_under (l : Launch) (ad : Nat → Nat) (E : Ev) (C : Cx E l room_1 4 cL_law RL) (hN : Nx E (.methodLinkNest RX9 239 yX1_readCondition "RunCuts")) (b L : Nat) (xs : Nat → Int32) (SX : Sx E b L xs) (hL : L ≤ 2560) (σ : Sg) (hXσ : IX σ.1) (hIσ : IM σ.1) (hRσ : RlA σ.1) (hCσ : RlC σ.1) (i : Int32) (hi : 0 ≤ i.toInt ∧ i.toInt + 5 ≤ L) (K : ∀ τ : Sg, IX τ.1 → IM τ.1 → RlA τ.1 → RlC τ.1 → WP E ad 1452 [some (.ref b), some (.ref (ad 0)), some (.ref (ad 71)), some (.int i)] [] τ) : WP E ad 747 [some (.ref b), some (.ref (ad 0)), some (.ref (ad 71)), some (.int i)] [] σ := by
  refine s_aload_n C dL_law_747 rfl ?_
  refine s_aload_n C dL_law_748 rfl ?_
  refine s_iload_n C dL_law_749 rfl ?_
  refine s_iconst C dL_law_750 (by decide) (fun z1 tz1 => ?_)
  refine s_iadd C dL_law_751 (by omega) (fun z2 tz2 => ?_)
  refine s_sld C SX (by omega) dL_law_752 ?_
  refine s_callVI (st := []) C (c_X9_under l ad σ ((xs z2.toNatClampNeg)) hXσ) cv_L_86 y0 rfl rfl rfl ⟨by decide, by decide⟩ (Nat.le_of_ble_eq_true rfl) dL_law_753 ?_
  intro r3 τ4 h5
  have hXτ4 := h5.1
  have gτ4 := Fr.ge h5.2.1 (by decide) (by decide)
  have hIτ4 : IM τ4.1 := IM.of gτ4 hIσ
  have hRτ4 : RlA τ4.1 := RlA.keep hRσ h5.2.1 (by decide) (by decide) (by decide) (by decide) (by decide)
  have hCτ4 : RlC τ4.1 := RlC.keep hCσ h5.2.1 (by decide) (by decide) (by decide) (by decide)
  refine s_pop C dL_law_756 rfl ?_
  refine s_aload_n C dL_law_757 rfl ?_
  refine s_aload_n C dL_law_758 rfl ?_
  refine s_iload_n C dL_law_759 rfl ?_
  refine s_iconst C dL_law_760 (by decide) (fun z6 tz6 => ?_)
  refine s_iadd C dL_law_761 (by omega) (fun z7 tz7 => ?_)
  rw [show z7 = z2 from ceq (by omega)]
  refine s_sld C SX (by omega) dL_law_762 ?_
  refine s_callVI (st := []) C (c_X10_under l ad τ4 ((xs z2.toNatClampNeg)) hIτ4) cv_L_89 y71 rfl rfl rfl ⟨by decide, by decide⟩ (Nat.le_of_ble_eq_true rfl) dL_law_763 ?_
  intro r8 τ9 h10
  have hIτ9 := h10.1
  have gτ9 := Fr.lt h10.2.1 (by decide) (by decide)
  have hXτ9 : IX τ9.1 := IX.of gτ9 hXτ4
  have hRτ9 : RlA τ9.1 := RlA.keep hRτ4 h10.2.1 (by decide) (by decide) (by decide) (by decide) (by decide)
  have hCτ9 : RlC τ9.1 := RlC.keep hCτ4 h10.2.1 (by decide) (by decide) (by decide) (by decide)
  refine s_pop C dL_law_766 rfl ?_
  refine s_goto (tgt := 1452) C dL_law_767 (by decide) ?_
  exact K τ9 hXτ9 hIτ9 hRτ9 hCτ9
set_option maxRecDepth 100000 in
theorem lw_value (l : Launch) (ad : Nat → Nat) (E : Ev) (C : Cx E l room_1 4 cL_law RL) (hN : Nx E (.methodLinkNest RX9 239 yX1_readCondition "RunCuts")) (b L : Nat) (xs : Nat → Int32) (SX : Sx E b L xs) (hL : L ≤ 2560) (σ : Sg) (hXσ : IX σ.1) (hIσ : IM σ.1) (hRσ : RlA σ.1) (hCσ : RlC σ.1) (i : Int32) (hi : 0 ≤ i.toInt ∧ i.toInt + 5 ≤ L) (K : ∀ τ : Sg, IX τ.1 → IM τ.1 → RlA τ.1 → RlC τ.1 → WP E ad 1452 [some (.ref b), some (.ref (ad 0)), some (.ref (ad 71)), some (.int i)] [] τ) : WP E ad 770 [some (.ref b), some (.ref (ad 0)), some (.ref (ad 71)), some (.int i)] [] σ := by
  refine s_aload_n C dL_law_770 rfl ?_
  refine s_aload_n C dL_law_771 rfl ?_
  refine s_iload_n C dL_law_772 rfl ?_
  refine s_iconst C dL_law_773 (by decide) (fun z1 tz1 => ?_)
  refine s_iadd C dL_law_774 (by omega) (fun z2 tz2 => ?_)
  refine s_sld C SX (by omega) dL_law_775 ?_
  refine s_aload_n C dL_law_776 rfl ?_
  refine s_iload_n C dL_law_777 rfl ?_
  refine s_iconst C dL_law_778 (by decide) (fun z3 tz3 => ?_)
  refine s_iadd C dL_law_779 (by omega) (fun z4 tz4 => ?_)
  refine s_sld C SX (by omega) dL_law_780 ?_
  refine s_callVI (st := []) C (c_X9_value l ad σ ((xs z2.toNatClampNeg)) ((xs z4.toNatClampNeg)) hXσ) cv_L_90 y0 rfl rfl rfl ⟨by decide, by decide⟩ (Nat.le_of_ble_eq_true rfl) dL_law_781 ?_
  intro r5 τ6 h7
  have hXτ6 := h7.1
  have gτ6 := Fr.ge h7.2.1 (by decide) (by decide)
  have hIτ6 : IM τ6.1 := IM.of gτ6 hIσ
  have hRτ6 : RlA τ6.1 := RlA.keep hRσ h7.2.1 (by decide) (by decide) (by decide) (by decide) (by decide)
  have hCτ6 : RlC τ6.1 := RlC.keep hCσ h7.2.1 (by decide) (by decide) (by decide) (by decide)
  refine s_pop C dL_law_784 rfl ?_
  refine s_aload_n C dL_law_785 rfl ?_
  refine s_aload_n C dL_law_786 rfl ?_
  refine s_iload_n C dL_law_787 rfl ?_
  refine s_iconst C dL_law_788 (by decide) (fun z8 tz8 => ?_)
  refine s_iadd C dL_law_789 (by omega) (fun z9 tz9 => ?_)
  rw [show z9 = z2 from ceq (by omega)]
  refine s_sld C SX (by omega) dL_law_790 ?_
  refine s_aload_n C dL_law_791 rfl ?_
  refine s_iload_n C dL_law_792 rfl ?_
  refine s_iconst C dL_law_793 (by decide) (fun z10 tz10 => ?_)
  refine s_iadd C dL_law_794 (by omega) (fun z11 tz11 => ?_)
  rw [show z11 = z4 from ceq (by omega)]
  refine s_sld C SX (by omega) dL_law_795 ?_
  refine s_callVI (st := []) C (c_X10_value l ad τ6 ((xs z2.toNatClampNeg)) ((xs z4.toNatClampNeg)) hIτ6) cv_L_93 y71 rfl rfl rfl ⟨by decide, by decide⟩ (Nat.le_of_ble_eq_true rfl) dL_law_796 ?_
  intro r12 τ13 h14
  have hIτ13 := h14.1
  have gτ13 := Fr.lt h14.2.1 (by decide) (by decide)
  have hXτ13 : IX τ13.1 := IX.of gτ13 hXτ6
  have hRτ13 : RlA τ13.1 := RlA.keep hRτ6 h14.2.1 (by decide) (by decide) (by decide) (by decide) (by decide)
  have hCτ13 : RlC τ13.1 := RlC.keep hCτ6 h14.2.1 (by decide) (by decide) (by decide) (by decide)
  refine s_pop C dL_law_799 rfl ?_
  refine s_goto (tgt := 1452) C dL_law_800 (by decide) ?_
  exact K τ13 hXτ13 hIτ13 hRτ13 hCτ13
set_option maxRecDepth 100000 in
theorem lw_ways (l : Launch) (ad : Nat → Nat) (E : Ev) (C : Cx E l room_1 4 cL_law RL) (hN : Nx E (.methodLinkNest RX9 239 yX1_readCondition "RunCuts")) (b L : Nat) (xs : Nat → Int32) (SX : Sx E b L xs) (hL : L ≤ 2560) (σ : Sg) (hXσ : IX σ.1) (hIσ : IM σ.1) (hRσ : RlA σ.1) (hCσ : RlC σ.1) (i : Int32) (hi : 0 ≤ i.toInt ∧ i.toInt + 5 ≤ L) (K : ∀ τ : Sg, IX τ.1 → IM τ.1 → RlA τ.1 → RlC τ.1 → WP E ad 1452 [some (.ref b), some (.ref (ad 0)), some (.ref (ad 71)), some (.int i)] [] τ) : WP E ad 803 [some (.ref b), some (.ref (ad 0)), some (.ref (ad 71)), some (.int i)] [] σ := by
  refine s_aload_n C dL_law_803 rfl ?_
  refine s_aload_n C dL_law_804 rfl ?_
  refine s_iload_n C dL_law_805 rfl ?_
  refine s_iconst C dL_law_806 (by decide) (fun z1 tz1 => ?_)
  refine s_iadd C dL_law_807 (by omega) (fun z2 tz2 => ?_)
  refine s_sld C SX (by omega) dL_law_808 ?_
  refine s_callVL (st := []) C (c_X9_ways l ad σ ((xs z2.toNatClampNeg)) hXσ) cv_L_94 y0 rfl rfl rfl ⟨by decide, by decide⟩ (Nat.le_of_ble_eq_true rfl) dL_law_809 ?_
  intro r3 τ4 h5
  have hXτ4 := h5.1
  have gτ4 := Fr.ge h5.2.1 (by decide) (by decide)
  have hIτ4 : IM τ4.1 := IM.of gτ4 hIσ
  have hRτ4 : RlA τ4.1 := RlA.keep hRσ h5.2.1 (by decide) (by decide) (by decide) (by decide) (by decide)
  have hCτ4 : RlC τ4.1 := RlC.keep hCσ h5.2.1 (by decide) (by decide) (by decide) (by decide)
  refine s_pop2 C dL_law_812 rfl ?_
  refine s_aload_n C dL_law_813 rfl ?_
  refine s_aload_n C dL_law_814 rfl ?_
  refine s_iload_n C dL_law_815 rfl ?_
  refine s_iconst C dL_law_816 (by decide) (fun z6 tz6 => ?_)
  refine s_iadd C dL_law_817 (by omega) (fun z7 tz7 => ?_)
  rw [show z7 = z2 from ceq (by omega)]
  refine s_sld C SX (by omega) dL_law_818 ?_
  refine s_callVL (st := []) C (c_X10_ways l ad τ4 ((xs z2.toNatClampNeg)) hIτ4) cv_L_98 y71 rfl rfl rfl ⟨by decide, by decide⟩ (Nat.le_of_ble_eq_true rfl) dL_law_819 ?_
  intro r8 τ9 h10
  have hIτ9 := h10.1
  have gτ9 := Fr.lt h10.2.1 (by decide) (by decide)
  have hXτ9 : IX τ9.1 := IX.of gτ9 hXτ4
  have hRτ9 : RlA τ9.1 := RlA.keep hRτ4 h10.2.1 (by decide) (by decide) (by decide) (by decide) (by decide)
  have hCτ9 : RlC τ9.1 := RlC.keep hCτ4 h10.2.1 (by decide) (by decide) (by decide) (by decide)
  refine s_pop2 C dL_law_822 rfl ?_
  refine s_goto (tgt := 1452) C dL_law_823 (by decide) ?_
  exact K τ9 hXτ9 hIτ9 hRτ9 hCτ9
set_option maxRecDepth 100000 in
theorem lw_read (l : Launch) (ad : Nat → Nat) (E : Ev) (C : Cx E l room_1 4 cL_law RL) (hN : Nx E (.methodLinkNest RX9 239 yX1_readCondition "RunCuts")) (b L : Nat) (xs : Nat → Int32) (SX : Sx E b L xs) (hL : L ≤ 2560) (σ : Sg) (hXσ : IX σ.1) (hIσ : IM σ.1) (hRσ : RlA σ.1) (hCσ : RlC σ.1) (i : Int32) (hi : 0 ≤ i.toInt ∧ i.toInt + 5 ≤ L) (K : ∀ τ : Sg, IX τ.1 → IM τ.1 → RlA τ.1 → RlC τ.1 → WP E ad 1452 [some (.ref b), some (.ref (ad 0)), some (.ref (ad 71)), some (.int i)] [] τ) : WP E ad 826 [some (.ref b), some (.ref (ad 0)), some (.ref (ad 71)), some (.int i)] [] σ := by
  refine s_aload_n C dL_law_826 rfl ?_
  refine s_aload_n C dL_law_827 rfl ?_
  refine s_iload_n C dL_law_828 rfl ?_
  refine s_iconst C dL_law_829 (by decide) (fun z1 tz1 => ?_)
  refine s_iadd C dL_law_830 (by omega) (fun z2 tz2 => ?_)
  refine s_sld C SX (by omega) dL_law_831 ?_
  refine s_callMI (st := []) C hN (f2_X9_read l ad σ ((xs z2.toNatClampNeg)) hXσ (σ.1 67) (σ.1 66 0).toInt.toNat (σ.1 1 0).toInt rfl (by have q9 := hXσ.tl; omega) rfl) cv_L_99 y0 rfl rfl rfl ⟨by decide, by decide⟩ (Nat.le_of_ble_eq_true rfl) dL_law_832 ?_
  intro r3 τ4 h5
  have hXτ4 := h5.1
  have gτ4 := Fr.ge h5.2.1 (by decide) (by decide)
  have hIτ4 : IM τ4.1 := IM.of gτ4 hIσ
  refine s_pop C dL_law_835 rfl ?_
  refine s_aload_n C dL_law_836 rfl ?_
  refine s_aload_n C dL_law_837 rfl ?_
  refine s_iload_n C dL_law_838 rfl ?_
  refine s_iconst C dL_law_839 (by decide) (fun z6 tz6 => ?_)
  refine s_iadd C dL_law_840 (by omega) (fun z7 tz7 => ?_)
  rw [show z7 = z2 from ceq (by omega)]
  refine s_sld C SX (by omega) dL_law_841 ?_
  refine s_callVI (st := []) C (f2_X10_read l ad τ4 ((xs z2.toNatClampNeg)) hIτ4) cv_L_102 y71 rfl rfl rfl ⟨by decide, by decide⟩ (Nat.le_of_ble_eq_true rfl) dL_law_842 ?_
  intro r8 τ9 h10
  have hIτ9 := h10.1
  have gτ9 := Fr.lt h10.2.1 (by decide) (by decide)
  have hXτ9 : IX τ9.1 := IX.of gτ9 hXτ4
  have zτ9 := lr_read hRσ gτ4 gτ9 h5.2.1 h10.2.1 ⟨h5.2.2.1, h5.2.2.2.1⟩ ⟨h10.2.2.1, h10.2.2.2.1⟩
  have hRτ9 : RlA τ9.1 := zτ9.1
  have zzτ9 := zτ9.2
  have wτ9 := lc_read (hr12 := zτ9.2) hCσ gτ4 gτ9 h5.2.1 h10.2.1 h5.2.2.2.2 h10.2.2.2.2
  have hCτ9 : RlC τ9.1 := wτ9
  refine s_pop C dL_law_845 rfl ?_
  refine s_goto (tgt := 1452) C dL_law_846 (by decide) ?_
  exact K τ9 hXτ9 hIτ9 hRτ9 hCτ9
set_option maxRecDepth 100000 in
theorem lw_holds (l : Launch) (ad : Nat → Nat) (E : Ev) (C : Cx E l room_1 4 cL_law RL) (hN : Nx E (.methodLinkNest RX9 239 yX1_readCondition "RunCuts")) (b L : Nat) (xs : Nat → Int32) (SX : Sx E b L xs) (hL : L ≤ 2560) (σ : Sg) (hXσ : IX σ.1) (hIσ : IM σ.1) (hRσ : RlA σ.1) (hCσ : RlC σ.1) (i : Int32) (hi : 0 ≤ i.toInt ∧ i.toInt + 5 ≤ L) (K : ∀ τ : Sg, IX τ.1 → IM τ.1 → RlA τ.1 → RlC τ.1 → WP E ad 1452 [some (.ref b), some (.ref (ad 0)), some (.ref (ad 71)), some (.int i)] [] τ) : WP E ad 849 [some (.ref b), some (.ref (ad 0)), some (.ref (ad 71)), some (.int i)] [] σ := by
  refine s_aload_n C dL_law_849 rfl ?_
  refine s_aload_n C dL_law_850 rfl ?_
  refine s_iload_n C dL_law_851 rfl ?_
  refine s_iconst C dL_law_852 (by decide) (fun z1 tz1 => ?_)
  refine s_iadd C dL_law_853 (by omega) (fun z2 tz2 => ?_)
  refine s_sld C SX (by omega) dL_law_854 ?_
  refine s_aload_n C dL_law_855 rfl ?_
  refine s_iload_n C dL_law_856 rfl ?_
  refine s_iconst C dL_law_857 (by decide) (fun z3 tz3 => ?_)
  refine s_iadd C dL_law_858 (by omega) (fun z4 tz4 => ?_)
  refine s_sld C SX (by omega) dL_law_859 ?_
  refine s_callVI (st := []) C (c_X9_holds l ad σ ((xs z2.toNatClampNeg)) ((xs z4.toNatClampNeg)) hXσ) cv_L_103 y0 rfl rfl rfl ⟨by decide, by decide⟩ (Nat.le_of_ble_eq_true rfl) dL_law_860 ?_
  intro r5 τ6 h7
  have hXτ6 := h7.1
  have gτ6 := Fr.ge h7.2.1 (by decide) (by decide)
  have hIτ6 : IM τ6.1 := IM.of gτ6 hIσ
  have hRτ6 : RlA τ6.1 := RlA.keep hRσ h7.2.1 (by decide) (by decide) (by decide) (by decide) (by decide)
  have hCτ6 : RlC τ6.1 := RlC.keep hCσ h7.2.1 (by decide) (by decide) (by decide) (by decide)
  refine s_pop C dL_law_863 rfl ?_
  refine s_aload_n C dL_law_864 rfl ?_
  refine s_aload_n C dL_law_865 rfl ?_
  refine s_iload_n C dL_law_866 rfl ?_
  refine s_iconst C dL_law_867 (by decide) (fun z8 tz8 => ?_)
  refine s_iadd C dL_law_868 (by omega) (fun z9 tz9 => ?_)
  rw [show z9 = z2 from ceq (by omega)]
  refine s_sld C SX (by omega) dL_law_869 ?_
  refine s_aload_n C dL_law_870 rfl ?_
  refine s_iload_n C dL_law_871 rfl ?_
  refine s_iconst C dL_law_872 (by decide) (fun z10 tz10 => ?_)
  refine s_iadd C dL_law_873 (by omega) (fun z11 tz11 => ?_)
  rw [show z11 = z4 from ceq (by omega)]
  refine s_sld C SX (by omega) dL_law_874 ?_
  refine s_callVI (st := []) C (c_X10_holds l ad τ6 ((xs z2.toNatClampNeg)) ((xs z4.toNatClampNeg)) hIτ6) cv_L_106 y71 rfl rfl rfl ⟨by decide, by decide⟩ (Nat.le_of_ble_eq_true rfl) dL_law_875 ?_
  intro r12 τ13 h14
  have hIτ13 := h14.1
  have gτ13 := Fr.lt h14.2.1 (by decide) (by decide)
  have hXτ13 : IX τ13.1 := IX.of gτ13 hXτ6
  have hRτ13 : RlA τ13.1 := RlA.keep hRτ6 h14.2.1 (by decide) (by decide) (by decide) (by decide) (by decide)
  have hCτ13 : RlC τ13.1 := RlC.keep hCτ6 h14.2.1 (by decide) (by decide) (by decide) (by decide)
  refine s_pop C dL_law_878 rfl ?_
  refine s_goto (tgt := 1452) C dL_law_879 (by decide) ?_
  exact K τ13 hXτ13 hIτ13 hRτ13 hCτ13
set_option maxRecDepth 100000 in
theorem lw_possible (l : Launch) (ad : Nat → Nat) (E : Ev) (C : Cx E l room_1 4 cL_law RL) (hN : Nx E (.methodLinkNest RX9 239 yX1_readCondition "RunCuts")) (b L : Nat) (xs : Nat → Int32) (SX : Sx E b L xs) (hL : L ≤ 2560) (σ : Sg) (hXσ : IX σ.1) (hIσ : IM σ.1) (hRσ : RlA σ.1) (hCσ : RlC σ.1) (i : Int32) (hi : 0 ≤ i.toInt ∧ i.toInt + 5 ≤ L) (K : ∀ τ : Sg, IX τ.1 → IM τ.1 → RlA τ.1 → RlC τ.1 → WP E ad 1452 [some (.ref b), some (.ref (ad 0)), some (.ref (ad 71)), some (.int i)] [] τ) : WP E ad 882 [some (.ref b), some (.ref (ad 0)), some (.ref (ad 71)), some (.int i)] [] σ := by
  refine s_aload_n C dL_law_882 rfl ?_
  refine s_aload_n C dL_law_883 rfl ?_
  refine s_iload_n C dL_law_884 rfl ?_
  refine s_iconst C dL_law_885 (by decide) (fun z1 tz1 => ?_)
  refine s_iadd C dL_law_886 (by omega) (fun z2 tz2 => ?_)
  refine s_sld C SX (by omega) dL_law_887 ?_
  refine s_aload_n C dL_law_888 rfl ?_
  refine s_iload_n C dL_law_889 rfl ?_
  refine s_iconst C dL_law_890 (by decide) (fun z3 tz3 => ?_)
  refine s_iadd C dL_law_891 (by omega) (fun z4 tz4 => ?_)
  refine s_sld C SX (by omega) dL_law_892 ?_
  refine s_callVI (st := []) C (c_X9_possible l ad σ ((xs z2.toNatClampNeg)) ((xs z4.toNatClampNeg)) hXσ) cv_L_107 y0 rfl rfl rfl ⟨by decide, by decide⟩ (Nat.le_of_ble_eq_true rfl) dL_law_893 ?_
  intro r5 τ6 h7
  have hXτ6 := h7.1
  have gτ6 := Fr.ge h7.2.1 (by decide) (by decide)
  have hIτ6 : IM τ6.1 := IM.of gτ6 hIσ
  have hRτ6 : RlA τ6.1 := RlA.keep hRσ h7.2.1 (by decide) (by decide) (by decide) (by decide) (by decide)
  have hCτ6 : RlC τ6.1 := RlC.keep hCσ h7.2.1 (by decide) (by decide) (by decide) (by decide)
  refine s_pop C dL_law_896 rfl ?_
  refine s_aload_n C dL_law_897 rfl ?_
  refine s_aload_n C dL_law_898 rfl ?_
  refine s_iload_n C dL_law_899 rfl ?_
  refine s_iconst C dL_law_900 (by decide) (fun z8 tz8 => ?_)
  refine s_iadd C dL_law_901 (by omega) (fun z9 tz9 => ?_)
  rw [show z9 = z2 from ceq (by omega)]
  refine s_sld C SX (by omega) dL_law_902 ?_
  refine s_aload_n C dL_law_903 rfl ?_
  refine s_iload_n C dL_law_904 rfl ?_
  refine s_iconst C dL_law_905 (by decide) (fun z10 tz10 => ?_)
  refine s_iadd C dL_law_906 (by omega) (fun z11 tz11 => ?_)
  rw [show z11 = z4 from ceq (by omega)]
  refine s_sld C SX (by omega) dL_law_907 ?_
  refine s_callVI (st := []) C (c_X10_possible l ad τ6 ((xs z2.toNatClampNeg)) ((xs z4.toNatClampNeg)) hIτ6) cv_L_110 y71 rfl rfl rfl ⟨by decide, by decide⟩ (Nat.le_of_ble_eq_true rfl) dL_law_908 ?_
  intro r12 τ13 h14
  have hIτ13 := h14.1
  have gτ13 := Fr.lt h14.2.1 (by decide) (by decide)
  have hXτ13 : IX τ13.1 := IX.of gτ13 hXτ6
  have hRτ13 : RlA τ13.1 := RlA.keep hRτ6 h14.2.1 (by decide) (by decide) (by decide) (by decide) (by decide)
  have hCτ13 : RlC τ13.1 := RlC.keep hCτ6 h14.2.1 (by decide) (by decide) (by decide) (by decide)
  refine s_pop C dL_law_911 rfl ?_
  refine s_goto (tgt := 1452) C dL_law_912 (by decide) ?_
  exact K τ13 hXτ13 hIτ13 hRτ13 hCτ13
set_option maxRecDepth 100000 in
theorem lw_sure (l : Launch) (ad : Nat → Nat) (E : Ev) (C : Cx E l room_1 4 cL_law RL) (hN : Nx E (.methodLinkNest RX9 239 yX1_readCondition "RunCuts")) (b L : Nat) (xs : Nat → Int32) (SX : Sx E b L xs) (hL : L ≤ 2560) (σ : Sg) (hXσ : IX σ.1) (hIσ : IM σ.1) (hRσ : RlA σ.1) (hCσ : RlC σ.1) (i : Int32) (hi : 0 ≤ i.toInt ∧ i.toInt + 5 ≤ L) (K : ∀ τ : Sg, IX τ.1 → IM τ.1 → RlA τ.1 → RlC τ.1 → WP E ad 1452 [some (.ref b), some (.ref (ad 0)), some (.ref (ad 71)), some (.int i)] [] τ) : WP E ad 915 [some (.ref b), some (.ref (ad 0)), some (.ref (ad 71)), some (.int i)] [] σ := by
  refine s_aload_n C dL_law_915 rfl ?_
  refine s_aload_n C dL_law_916 rfl ?_
  refine s_iload_n C dL_law_917 rfl ?_
  refine s_iconst C dL_law_918 (by decide) (fun z1 tz1 => ?_)
  refine s_iadd C dL_law_919 (by omega) (fun z2 tz2 => ?_)
  refine s_sld C SX (by omega) dL_law_920 ?_
  refine s_callVI (st := []) C (c_X9_sure l ad σ ((xs z2.toNatClampNeg)) hXσ) cv_L_111 y0 rfl rfl rfl ⟨by decide, by decide⟩ (Nat.le_of_ble_eq_true rfl) dL_law_921 ?_
  intro r3 τ4 h5
  have hXτ4 := h5.1
  have gτ4 := Fr.ge h5.2.1 (by decide) (by decide)
  have hIτ4 : IM τ4.1 := IM.of gτ4 hIσ
  have hRτ4 : RlA τ4.1 := RlA.keep hRσ h5.2.1 (by decide) (by decide) (by decide) (by decide) (by decide)
  have hCτ4 : RlC τ4.1 := RlC.keep hCσ h5.2.1 (by decide) (by decide) (by decide) (by decide)
  refine s_pop C dL_law_924 rfl ?_
  refine s_aload_n C dL_law_925 rfl ?_
  refine s_aload_n C dL_law_926 rfl ?_
  refine s_iload_n C dL_law_927 rfl ?_
  refine s_iconst C dL_law_928 (by decide) (fun z6 tz6 => ?_)
  refine s_iadd C dL_law_929 (by omega) (fun z7 tz7 => ?_)
  rw [show z7 = z2 from ceq (by omega)]
  refine s_sld C SX (by omega) dL_law_930 ?_
  refine s_callVI (st := []) C (c_X10_sure l ad τ4 ((xs z2.toNatClampNeg)) hIτ4) cv_L_114 y71 rfl rfl rfl ⟨by decide, by decide⟩ (Nat.le_of_ble_eq_true rfl) dL_law_931 ?_
  intro r8 τ9 h10
  have hIτ9 := h10.1
  have gτ9 := Fr.lt h10.2.1 (by decide) (by decide)
  have hXτ9 : IX τ9.1 := IX.of gτ9 hXτ4
  have hRτ9 : RlA τ9.1 := RlA.keep hRτ4 h10.2.1 (by decide) (by decide) (by decide) (by decide) (by decide)
  have hCτ9 : RlC τ9.1 := RlC.keep hCτ4 h10.2.1 (by decide) (by decide) (by decide) (by decide)
  refine s_pop C dL_law_934 rfl ?_
  refine s_goto (tgt := 1452) C dL_law_935 (by decide) ?_
  exact K τ9 hXτ9 hIτ9 hRτ9 hCτ9
set_option maxRecDepth 100000 in
theorem lw_around (l : Launch) (ad : Nat → Nat) (E : Ev) (C : Cx E l room_1 4 cL_law RL) (hN : Nx E (.methodLinkNest RX9 239 yX1_readCondition "RunCuts")) (b L : Nat) (xs : Nat → Int32) (SX : Sx E b L xs) (hL : L ≤ 2560) (σ : Sg) (hXσ : IX σ.1) (hIσ : IM σ.1) (hRσ : RlA σ.1) (hCσ : RlC σ.1) (i : Int32) (hi : 0 ≤ i.toInt ∧ i.toInt + 5 ≤ L) (K : ∀ τ : Sg, IX τ.1 → IM τ.1 → RlA τ.1 → RlC τ.1 → WP E ad 1452 [some (.ref b), some (.ref (ad 0)), some (.ref (ad 71)), some (.int i)] [] τ) : WP E ad 938 [some (.ref b), some (.ref (ad 0)), some (.ref (ad 71)), some (.int i)] [] σ := by
  refine s_aload_n C dL_law_938 rfl ?_
  refine s_aload_n C dL_law_939 rfl ?_
  refine s_iload_n C dL_law_940 rfl ?_
  refine s_iconst C dL_law_941 (by decide) (fun z1 tz1 => ?_)
  refine s_iadd C dL_law_942 (by omega) (fun z2 tz2 => ?_)
  refine s_sld C SX (by omega) dL_law_943 ?_
  refine s_aload_n C dL_law_944 rfl ?_
  refine s_iload_n C dL_law_945 rfl ?_
  refine s_iconst C dL_law_946 (by decide) (fun z3 tz3 => ?_)
  refine s_iadd C dL_law_947 (by omega) (fun z4 tz4 => ?_)
  refine s_sld C SX (by omega) dL_law_948 ?_
  refine s_callVI (st := []) C (c_X9_around l ad σ ((xs z2.toNatClampNeg)) ((xs z4.toNatClampNeg)) hXσ) cv_L_115 y0 rfl rfl rfl ⟨by decide, by decide⟩ (Nat.le_of_ble_eq_true rfl) dL_law_949 ?_
  intro r5 τ6 h7
  have hXτ6 := h7.1
  have gτ6 := Fr.ge h7.2.1 (by decide) (by decide)
  have hIτ6 : IM τ6.1 := IM.of gτ6 hIσ
  have hRτ6 : RlA τ6.1 := RlA.keep hRσ h7.2.1 (by decide) (by decide) (by decide) (by decide) (by decide)
  have hCτ6 : RlC τ6.1 := RlC.keep hCσ h7.2.1 (by decide) (by decide) (by decide) (by decide)
  refine s_pop C dL_law_952 rfl ?_
  refine s_aload_n C dL_law_953 rfl ?_
  refine s_aload_n C dL_law_954 rfl ?_
  refine s_iload_n C dL_law_955 rfl ?_
  refine s_iconst C dL_law_956 (by decide) (fun z8 tz8 => ?_)
  refine s_iadd C dL_law_957 (by omega) (fun z9 tz9 => ?_)
  rw [show z9 = z2 from ceq (by omega)]
  refine s_sld C SX (by omega) dL_law_958 ?_
  refine s_aload_n C dL_law_959 rfl ?_
  refine s_iload_n C dL_law_960 rfl ?_
  refine s_iconst C dL_law_961 (by decide) (fun z10 tz10 => ?_)
  refine s_iadd C dL_law_962 (by omega) (fun z11 tz11 => ?_)
  rw [show z11 = z4 from ceq (by omega)]
  refine s_sld C SX (by omega) dL_law_963 ?_
  refine s_callVI (st := []) C (c_X10_around l ad τ6 ((xs z2.toNatClampNeg)) ((xs z4.toNatClampNeg)) hIτ6) cv_L_118 y71 rfl rfl rfl ⟨by decide, by decide⟩ (Nat.le_of_ble_eq_true rfl) dL_law_964 ?_
  intro r12 τ13 h14
  have hIτ13 := h14.1
  have gτ13 := Fr.lt h14.2.1 (by decide) (by decide)
  have hXτ13 : IX τ13.1 := IX.of gτ13 hXτ6
  have hRτ13 : RlA τ13.1 := RlA.keep hRτ6 h14.2.1 (by decide) (by decide) (by decide) (by decide) (by decide)
  have hCτ13 : RlC τ13.1 := RlC.keep hCτ6 h14.2.1 (by decide) (by decide) (by decide) (by decide)
  refine s_pop C dL_law_967 rfl ?_
  refine s_goto (tgt := 1452) C dL_law_968 (by decide) ?_
  exact K τ13 hXτ13 hIτ13 hRτ13 hCτ13
set_option maxRecDepth 100000 in
theorem lw_slice (l : Launch) (ad : Nat → Nat) (E : Ev) (C : Cx E l room_1 4 cL_law RL) (hN : Nx E (.methodLinkNest RX9 239 yX1_readCondition "RunCuts")) (b L : Nat) (xs : Nat → Int32) (SX : Sx E b L xs) (hL : L ≤ 2560) (σ : Sg) (hXσ : IX σ.1) (hIσ : IM σ.1) (hRσ : RlA σ.1) (hCσ : RlC σ.1) (i : Int32) (hi : 0 ≤ i.toInt ∧ i.toInt + 5 ≤ L) (K : ∀ τ : Sg, IX τ.1 → IM τ.1 → RlA τ.1 → RlC τ.1 → WP E ad 1452 [some (.ref b), some (.ref (ad 0)), some (.ref (ad 71)), some (.int i)] [] τ) : WP E ad 971 [some (.ref b), some (.ref (ad 0)), some (.ref (ad 71)), some (.int i)] [] σ := by
  refine s_aload_n C dL_law_971 rfl ?_
  refine s_aload_n C dL_law_972 rfl ?_
  refine s_iload_n C dL_law_973 rfl ?_
  refine s_iconst C dL_law_974 (by decide) (fun z1 tz1 => ?_)
  refine s_iadd C dL_law_975 (by omega) (fun z2 tz2 => ?_)
  refine s_sld C SX (by omega) dL_law_976 ?_
  refine s_aload_n C dL_law_977 rfl ?_
  refine s_iload_n C dL_law_978 rfl ?_
  refine s_iconst C dL_law_979 (by decide) (fun z3 tz3 => ?_)
  refine s_iadd C dL_law_980 (by omega) (fun z4 tz4 => ?_)
  refine s_sld C SX (by omega) dL_law_981 ?_
  refine s_callVI (st := []) C (c_X9_slice l ad σ ((xs z2.toNatClampNeg)) ((xs z4.toNatClampNeg)) hXσ) cv_L_119 y0 rfl rfl rfl ⟨by decide, by decide⟩ (Nat.le_of_ble_eq_true rfl) dL_law_982 ?_
  intro r5 τ6 h7
  have hXτ6 := h7.1
  have gτ6 := Fr.ge h7.2.1 (by decide) (by decide)
  have hIτ6 : IM τ6.1 := IM.of gτ6 hIσ
  have hRτ6 : RlA τ6.1 := RlA.keep hRσ h7.2.1 (by decide) (by decide) (by decide) (by decide) (by decide)
  have hCτ6 : RlC τ6.1 := RlC.keep hCσ h7.2.1 (by decide) (by decide) (by decide) (by decide)
  refine s_pop C dL_law_985 rfl ?_
  refine s_aload_n C dL_law_986 rfl ?_
  refine s_aload_n C dL_law_987 rfl ?_
  refine s_iload_n C dL_law_988 rfl ?_
  refine s_iconst C dL_law_989 (by decide) (fun z8 tz8 => ?_)
  refine s_iadd C dL_law_990 (by omega) (fun z9 tz9 => ?_)
  rw [show z9 = z2 from ceq (by omega)]
  refine s_sld C SX (by omega) dL_law_991 ?_
  refine s_aload_n C dL_law_992 rfl ?_
  refine s_iload_n C dL_law_993 rfl ?_
  refine s_iconst C dL_law_994 (by decide) (fun z10 tz10 => ?_)
  refine s_iadd C dL_law_995 (by omega) (fun z11 tz11 => ?_)
  rw [show z11 = z4 from ceq (by omega)]
  refine s_sld C SX (by omega) dL_law_996 ?_
  refine s_callVI (st := []) C (c_X10_slice l ad τ6 ((xs z2.toNatClampNeg)) ((xs z4.toNatClampNeg)) hIτ6) cv_L_122 y71 rfl rfl rfl ⟨by decide, by decide⟩ (Nat.le_of_ble_eq_true rfl) dL_law_997 ?_
  intro r12 τ13 h14
  have hIτ13 := h14.1
  have gτ13 := Fr.lt h14.2.1 (by decide) (by decide)
  have hXτ13 : IX τ13.1 := IX.of gτ13 hXτ6
  have hRτ13 : RlA τ13.1 := RlA.keep hRτ6 h14.2.1 (by decide) (by decide) (by decide) (by decide) (by decide)
  have hCτ13 : RlC τ13.1 := RlC.keep hCτ6 h14.2.1 (by decide) (by decide) (by decide) (by decide)
  refine s_pop C dL_law_1000 rfl ?_
  refine s_goto (tgt := 1452) C dL_law_1001 (by decide) ?_
  exact K τ13 hXτ13 hIτ13 hRτ13 hCτ13
set_option maxRecDepth 100000 in
theorem lw_regular (l : Launch) (ad : Nat → Nat) (E : Ev) (C : Cx E l room_1 4 cL_law RL) (hN : Nx E (.methodLinkNest RX9 239 yX1_readCondition "RunCuts")) (b L : Nat) (xs : Nat → Int32) (SX : Sx E b L xs) (hL : L ≤ 2560) (σ : Sg) (hXσ : IX σ.1) (hIσ : IM σ.1) (hRσ : RlA σ.1) (hCσ : RlC σ.1) (i : Int32) (hi : 0 ≤ i.toInt ∧ i.toInt + 5 ≤ L) (K : ∀ τ : Sg, IX τ.1 → IM τ.1 → RlA τ.1 → RlC τ.1 → WP E ad 1452 [some (.ref b), some (.ref (ad 0)), some (.ref (ad 71)), some (.int i)] [] τ) : WP E ad 1004 [some (.ref b), some (.ref (ad 0)), some (.ref (ad 71)), some (.int i)] [] σ := by
  refine s_aload_n C dL_law_1004 rfl ?_
  refine s_aload_n C dL_law_1005 rfl ?_
  refine s_iload_n C dL_law_1006 rfl ?_
  refine s_iconst C dL_law_1007 (by decide) (fun z1 tz1 => ?_)
  refine s_iadd C dL_law_1008 (by omega) (fun z2 tz2 => ?_)
  refine s_sld C SX (by omega) dL_law_1009 ?_
  refine s_callVI (st := []) C (c_X9_regular l ad σ ((xs z2.toNatClampNeg)) hXσ) cv_L_123 y0 rfl rfl rfl ⟨by decide, by decide⟩ (Nat.le_of_ble_eq_true rfl) dL_law_1010 ?_
  intro r3 τ4 h5
  have hXτ4 := h5.1
  have gτ4 := Fr.ge h5.2.1 (by decide) (by decide)
  have hIτ4 : IM τ4.1 := IM.of gτ4 hIσ
  have hRτ4 : RlA τ4.1 := RlA.keep hRσ h5.2.1 (by decide) (by decide) (by decide) (by decide) (by decide)
  have hCτ4 : RlC τ4.1 := RlC.keep hCσ h5.2.1 (by decide) (by decide) (by decide) (by decide)
  refine s_pop C dL_law_1013 rfl ?_
  refine s_aload_n C dL_law_1014 rfl ?_
  refine s_aload_n C dL_law_1015 rfl ?_
  refine s_iload_n C dL_law_1016 rfl ?_
  refine s_iconst C dL_law_1017 (by decide) (fun z6 tz6 => ?_)
  refine s_iadd C dL_law_1018 (by omega) (fun z7 tz7 => ?_)
  rw [show z7 = z2 from ceq (by omega)]
  refine s_sld C SX (by omega) dL_law_1019 ?_
  refine s_callVI (st := []) C (c_X10_regular l ad τ4 ((xs z2.toNatClampNeg)) hIτ4) cv_L_126 y71 rfl rfl rfl ⟨by decide, by decide⟩ (Nat.le_of_ble_eq_true rfl) dL_law_1020 ?_
  intro r8 τ9 h10
  have hIτ9 := h10.1
  have gτ9 := Fr.lt h10.2.1 (by decide) (by decide)
  have hXτ9 : IX τ9.1 := IX.of gτ9 hXτ4
  have hRτ9 : RlA τ9.1 := RlA.keep hRτ4 h10.2.1 (by decide) (by decide) (by decide) (by decide) (by decide)
  have hCτ9 : RlC τ9.1 := RlC.keep hCτ4 h10.2.1 (by decide) (by decide) (by decide) (by decide)
  refine s_pop C dL_law_1023 rfl ?_
  refine s_goto (tgt := 1452) C dL_law_1024 (by decide) ?_
  exact K τ9 hXτ9 hIτ9 hRτ9 hCτ9
set_option maxRecDepth 100000 in
theorem lw_least (l : Launch) (ad : Nat → Nat) (E : Ev) (C : Cx E l room_1 4 cL_law RL) (hN : Nx E (.methodLinkNest RX9 239 yX1_readCondition "RunCuts")) (b L : Nat) (xs : Nat → Int32) (SX : Sx E b L xs) (hL : L ≤ 2560) (σ : Sg) (hXσ : IX σ.1) (hIσ : IM σ.1) (hRσ : RlA σ.1) (hCσ : RlC σ.1) (i : Int32) (hi : 0 ≤ i.toInt ∧ i.toInt + 5 ≤ L) (K : ∀ τ : Sg, IX τ.1 → IM τ.1 → RlA τ.1 → RlC τ.1 → WP E ad 1452 [some (.ref b), some (.ref (ad 0)), some (.ref (ad 71)), some (.int i)] [] τ) : WP E ad 1027 [some (.ref b), some (.ref (ad 0)), some (.ref (ad 71)), some (.int i)] [] σ := by
  refine s_aload_n C dL_law_1027 rfl ?_
  refine s_aload_n C dL_law_1028 rfl ?_
  refine s_iload_n C dL_law_1029 rfl ?_
  refine s_iconst C dL_law_1030 (by decide) (fun z1 tz1 => ?_)
  refine s_iadd C dL_law_1031 (by omega) (fun z2 tz2 => ?_)
  refine s_sld C SX (by omega) dL_law_1032 ?_
  refine s_aload_n C dL_law_1033 rfl ?_
  refine s_iload_n C dL_law_1034 rfl ?_
  refine s_iconst C dL_law_1035 (by decide) (fun z3 tz3 => ?_)
  refine s_iadd C dL_law_1036 (by omega) (fun z4 tz4 => ?_)
  refine s_sld C SX (by omega) dL_law_1037 ?_
  refine s_aload_n C dL_law_1038 rfl ?_
  refine s_iload_n C dL_law_1039 rfl ?_
  refine s_iconst C dL_law_1040 (by decide) (fun z5 tz5 => ?_)
  refine s_iadd C dL_law_1041 (by omega) (fun z6 tz6 => ?_)
  refine s_sld C SX (by omega) dL_law_1042 ?_
  refine s_callVI (st := []) C (c_X9_least l ad σ ((xs z2.toNatClampNeg)) ((xs z4.toNatClampNeg)) ((xs z6.toNatClampNeg)) hXσ) cv_L_127 y0 rfl rfl rfl ⟨by decide, by decide⟩ (Nat.le_of_ble_eq_true rfl) dL_law_1043 ?_
  intro r7 τ8 h9
  have hXτ8 := h9.1
  have gτ8 := Fr.ge h9.2.1 (by decide) (by decide)
  have hIτ8 : IM τ8.1 := IM.of gτ8 hIσ
  have hRτ8 : RlA τ8.1 := RlA.keep hRσ h9.2.1 (by decide) (by decide) (by decide) (by decide) (by decide)
  have hCτ8 : RlC τ8.1 := RlC.keep hCσ h9.2.1 (by decide) (by decide) (by decide) (by decide)
  refine s_pop C dL_law_1046 rfl ?_
  refine s_aload_n C dL_law_1047 rfl ?_
  refine s_aload_n C dL_law_1048 rfl ?_
  refine s_iload_n C dL_law_1049 rfl ?_
  refine s_iconst C dL_law_1050 (by decide) (fun z10 tz10 => ?_)
  refine s_iadd C dL_law_1051 (by omega) (fun z11 tz11 => ?_)
  rw [show z11 = z2 from ceq (by omega)]
  refine s_sld C SX (by omega) dL_law_1052 ?_
  refine s_aload_n C dL_law_1053 rfl ?_
  refine s_iload_n C dL_law_1054 rfl ?_
  refine s_iconst C dL_law_1055 (by decide) (fun z12 tz12 => ?_)
  refine s_iadd C dL_law_1056 (by omega) (fun z13 tz13 => ?_)
  rw [show z13 = z4 from ceq (by omega)]
  refine s_sld C SX (by omega) dL_law_1057 ?_
  refine s_aload_n C dL_law_1058 rfl ?_
  refine s_iload_n C dL_law_1059 rfl ?_
  refine s_iconst C dL_law_1060 (by decide) (fun z14 tz14 => ?_)
  refine s_iadd C dL_law_1061 (by omega) (fun z15 tz15 => ?_)
  rw [show z15 = z6 from ceq (by omega)]
  refine s_sld C SX (by omega) dL_law_1062 ?_
  refine s_callVI (st := []) C (c_X10_least l ad τ8 ((xs z2.toNatClampNeg)) ((xs z4.toNatClampNeg)) ((xs z6.toNatClampNeg)) hIτ8) cv_L_130 y71 rfl rfl rfl ⟨by decide, by decide⟩ (Nat.le_of_ble_eq_true rfl) dL_law_1063 ?_
  intro r16 τ17 h18
  have hIτ17 := h18.1
  have gτ17 := Fr.lt h18.2.1 (by decide) (by decide)
  have hXτ17 : IX τ17.1 := IX.of gτ17 hXτ8
  have hRτ17 : RlA τ17.1 := RlA.keep hRτ8 h18.2.1 (by decide) (by decide) (by decide) (by decide) (by decide)
  have hCτ17 : RlC τ17.1 := RlC.keep hCτ8 h18.2.1 (by decide) (by decide) (by decide) (by decide)
  refine s_pop C dL_law_1066 rfl ?_
  refine s_goto (tgt := 1452) C dL_law_1067 (by decide) ?_
  exact K τ17 hXτ17 hIτ17 hRτ17 hCτ17
set_option maxRecDepth 100000 in
theorem lw_forget (l : Launch) (ad : Nat → Nat) (E : Ev) (C : Cx E l room_1 4 cL_law RL) (hN : Nx E (.methodLinkNest RX9 239 yX1_readCondition "RunCuts")) (b L : Nat) (xs : Nat → Int32) (SX : Sx E b L xs) (hL : L ≤ 2560) (σ : Sg) (hXσ : IX σ.1) (hIσ : IM σ.1) (hRσ : RlA σ.1) (hCσ : RlC σ.1) (i : Int32) (hi : 0 ≤ i.toInt ∧ i.toInt + 5 ≤ L) (K : ∀ τ : Sg, IX τ.1 → IM τ.1 → RlA τ.1 → RlC τ.1 → WP E ad 1452 [some (.ref b), some (.ref (ad 0)), some (.ref (ad 71)), some (.int i)] [] τ) : WP E ad 1070 [some (.ref b), some (.ref (ad 0)), some (.ref (ad 71)), some (.int i)] [] σ := by
  refine s_aload_n C dL_law_1070 rfl ?_
  refine s_aload_n C dL_law_1071 rfl ?_
  refine s_iload_n C dL_law_1072 rfl ?_
  refine s_iconst C dL_law_1073 (by decide) (fun z1 tz1 => ?_)
  refine s_iadd C dL_law_1074 (by omega) (fun z2 tz2 => ?_)
  refine s_sld C SX (by omega) dL_law_1075 ?_
  refine s_callVI (st := []) C (f_X9_forget l ad σ ((xs z2.toNatClampNeg)) hXσ) cv_L_131 y0 rfl rfl rfl ⟨by decide, by decide⟩ (Nat.le_of_ble_eq_true rfl) dL_law_1076 ?_
  intro r3 τ4 h5
  have hXτ4 := h5.1
  have gτ4 := Fr.ge h5.2.1 (by decide) (by decide)
  have hIτ4 : IM τ4.1 := IM.of gτ4 hIσ
  have hRτ4 : RlA τ4.1 := RlA.keep hRσ h5.2.1 (by decide) (by decide) (by decide) (by decide) (by decide)
  refine s_aload_n C dL_law_1079 rfl ?_
  refine s_aload_n C dL_law_1080 rfl ?_
  refine s_iload_n C dL_law_1081 rfl ?_
  refine s_iconst C dL_law_1082 (by decide) (fun z6 tz6 => ?_)
  refine s_iadd C dL_law_1083 (by omega) (fun z7 tz7 => ?_)
  rw [show z7 = z2 from ceq (by omega)]
  refine s_sld C SX (by omega) dL_law_1084 ?_
  refine s_callVI (st := [.int r3]) C (f_X10_forget l ad τ4 ((xs z2.toNatClampNeg)) hIτ4) cv_L_134 y71 rfl rfl rfl ⟨by decide, by decide⟩ (Nat.le_of_ble_eq_true rfl) dL_law_1085 ?_
  intro r8 τ9 h10
  have hIτ9 := h10.1
  have gτ9 := Fr.lt h10.2.1 (by decide) (by decide)
  have hXτ9 : IX τ9.1 := IX.of gτ9 hXτ4
  have hRτ9 : RlA τ9.1 := RlA.keep hRτ4 h10.2.1 (by decide) (by decide) (by decide) (by decide) (by decide)
  have wτ9 := lc_forget hCσ gτ4 gτ9 h5.2.1 h10.2.1 h5.2.2 h10.2.2
  have hCτ9 : RlC τ9.1 := wτ9.1
  have zzτ9 := wτ9.2
  refine s_icmp_eq (tgt := 1452) C dL_law_1088 (by decide) (fun q11 => ?_) (fun q11 => ?_)
  · exact K τ9 hXτ9 hIτ9 hRτ9 hCτ9
  · refine s_iconst C dL_law_1091 (by decide) (fun z12 tz12 => ?_)
    omega
set_option maxRecDepth 100000 in
theorem lw_mark (l : Launch) (ad : Nat → Nat) (E : Ev) (C : Cx E l room_1 4 cL_law RL) (hN : Nx E (.methodLinkNest RX9 239 yX1_readCondition "RunCuts")) (b L : Nat) (xs : Nat → Int32) (SX : Sx E b L xs) (hL : L ≤ 2560) (σ : Sg) (hXσ : IX σ.1) (hIσ : IM σ.1) (hRσ : RlA σ.1) (hCσ : RlC σ.1) (i : Int32) (hi : 0 ≤ i.toInt ∧ i.toInt + 5 ≤ L) (K : ∀ τ : Sg, IX τ.1 → IM τ.1 → RlA τ.1 → RlC τ.1 → WP E ad 1452 [some (.ref b), some (.ref (ad 0)), some (.ref (ad 71)), some (.int i)] [] τ) : WP E ad 1093 [some (.ref b), some (.ref (ad 0)), some (.ref (ad 71)), some (.int i)] [] σ := by
  refine s_aload_n C dL_law_1093 rfl ?_
  refine s_aload_n C dL_law_1094 rfl ?_
  refine s_iload_n C dL_law_1095 rfl ?_
  refine s_iconst C dL_law_1096 (by decide) (fun z1 tz1 => ?_)
  refine s_iadd C dL_law_1097 (by omega) (fun z2 tz2 => ?_)
  refine s_sld C SX (by omega) dL_law_1098 ?_
  refine s_aload_n C dL_law_1099 rfl ?_
  refine s_iload_n C dL_law_1100 rfl ?_
  refine s_iconst C dL_law_1101 (by decide) (fun z3 tz3 => ?_)
  refine s_iadd C dL_law_1102 (by omega) (fun z4 tz4 => ?_)
  refine s_sld C SX (by omega) dL_law_1103 ?_
  refine s_aload_n C dL_law_1104 rfl ?_
  refine s_iload_n C dL_law_1105 rfl ?_
  refine s_iconst C dL_law_1106 (by decide) (fun z5 tz5 => ?_)
  refine s_iadd C dL_law_1107 (by omega) (fun z6 tz6 => ?_)
  refine s_sld C SX (by omega) dL_law_1108 ?_
  refine s_callVI (st := []) C (c_X9_mark l ad σ ((xs z2.toNatClampNeg)) ((xs z4.toNatClampNeg)) ((xs z6.toNatClampNeg)) hXσ) cv_L_135 y0 rfl rfl rfl ⟨by decide, by decide⟩ (Nat.le_of_ble_eq_true rfl) dL_law_1109 ?_
  intro r7 τ8 h9
  have hXτ8 := h9.1
  have gτ8 := Fr.ge h9.2.1 (by decide) (by decide)
  have hIτ8 : IM τ8.1 := IM.of gτ8 hIσ
  have hRτ8 : RlA τ8.1 := RlA.keep hRσ h9.2.1 (by decide) (by decide) (by decide) (by decide) (by decide)
  have hCτ8 : RlC τ8.1 := RlC.keep hCσ h9.2.1 (by decide) (by decide) (by decide) (by decide)
  refine s_pop C dL_law_1112 rfl ?_
  refine s_aload_n C dL_law_1113 rfl ?_
  refine s_aload_n C dL_law_1114 rfl ?_
  refine s_iload_n C dL_law_1115 rfl ?_
  refine s_iconst C dL_law_1116 (by decide) (fun z10 tz10 => ?_)
  refine s_iadd C dL_law_1117 (by omega) (fun z11 tz11 => ?_)
  rw [show z11 = z2 from ceq (by omega)]
  refine s_sld C SX (by omega) dL_law_1118 ?_
  refine s_aload_n C dL_law_1119 rfl ?_
  refine s_iload_n C dL_law_1120 rfl ?_
  refine s_iconst C dL_law_1121 (by decide) (fun z12 tz12 => ?_)
  refine s_iadd C dL_law_1122 (by omega) (fun z13 tz13 => ?_)
  rw [show z13 = z4 from ceq (by omega)]
  refine s_sld C SX (by omega) dL_law_1123 ?_
  refine s_aload_n C dL_law_1124 rfl ?_
  refine s_iload_n C dL_law_1125 rfl ?_
  refine s_iconst C dL_law_1126 (by decide) (fun z14 tz14 => ?_)
  refine s_iadd C dL_law_1127 (by omega) (fun z15 tz15 => ?_)
  rw [show z15 = z6 from ceq (by omega)]
  refine s_sld C SX (by omega) dL_law_1128 ?_
  refine s_callVI (st := []) C (c_X10_mark l ad τ8 ((xs z2.toNatClampNeg)) ((xs z4.toNatClampNeg)) ((xs z6.toNatClampNeg)) hIτ8) cv_L_138 y71 rfl rfl rfl ⟨by decide, by decide⟩ (Nat.le_of_ble_eq_true rfl) dL_law_1129 ?_
  intro r16 τ17 h18
  have hIτ17 := h18.1
  have gτ17 := Fr.lt h18.2 (by decide) (by decide)
  have hXτ17 : IX τ17.1 := IX.of gτ17 hXτ8
  have hRτ17 : RlA τ17.1 := RlA.keep hRτ8 h18.2 (by decide) (by decide) (by decide) (by decide) (by decide)
  have hCτ17 : RlC τ17.1 := RlC.keep hCτ8 h18.2 (by decide) (by decide) (by decide) (by decide)
  refine s_pop C dL_law_1132 rfl ?_
  refine s_goto (tgt := 1452) C dL_law_1133 (by decide) ?_
  exact K τ17 hXτ17 hIτ17 hRτ17 hCτ17
set_option maxRecDepth 100000 in
theorem lw_line (l : Launch) (ad : Nat → Nat) (E : Ev) (C : Cx E l room_1 4 cL_law RL) (hN : Nx E (.methodLinkNest RX9 239 yX1_readCondition "RunCuts")) (b L : Nat) (xs : Nat → Int32) (SX : Sx E b L xs) (hL : L ≤ 2560) (σ : Sg) (hXσ : IX σ.1) (hIσ : IM σ.1) (hRσ : RlA σ.1) (hCσ : RlC σ.1) (i : Int32) (hi : 0 ≤ i.toInt ∧ i.toInt + 5 ≤ L) (K : ∀ τ : Sg, IX τ.1 → IM τ.1 → RlA τ.1 → RlC τ.1 → WP E ad 1452 [some (.ref b), some (.ref (ad 0)), some (.ref (ad 71)), some (.int i)] [] τ) : WP E ad 1136 [some (.ref b), some (.ref (ad 0)), some (.ref (ad 71)), some (.int i)] [] σ := by
  refine s_aload_n C dL_law_1136 rfl ?_
  refine s_callVI (st := []) C (c_X9_line l ad σ  hXσ) cv_L_139 y0 rfl rfl rfl ⟨by decide, by decide⟩ (Nat.le_of_ble_eq_true rfl) dL_law_1137 ?_
  intro r1 τ2 h3
  have hXτ2 := h3.1
  have gτ2 := Fr.ge h3.2.1 (by decide) (by decide)
  have hIτ2 : IM τ2.1 := IM.of gτ2 hIσ
  have hRτ2 : RlA τ2.1 := RlA.keep hRσ h3.2.1 (by decide) (by decide) (by decide) (by decide) (by decide)
  have hCτ2 : RlC τ2.1 := RlC.keep hCσ h3.2.1 (by decide) (by decide) (by decide) (by decide)
  refine s_pop C dL_law_1140 rfl ?_
  refine s_aload_n C dL_law_1141 rfl ?_
  refine s_callVI (st := []) C (c_X10_line l ad τ2  hIτ2) cv_L_142 y71 rfl rfl rfl ⟨by decide, by decide⟩ (Nat.le_of_ble_eq_true rfl) dL_law_1142 ?_
  intro r4 τ5 h6
  have hIτ5 := h6.1
  have gτ5 := Fr.lt h6.2.1 (by decide) (by decide)
  have hXτ5 : IX τ5.1 := IX.of gτ5 hXτ2
  have hRτ5 : RlA τ5.1 := RlA.keep hRτ2 h6.2.1 (by decide) (by decide) (by decide) (by decide) (by decide)
  have hCτ5 : RlC τ5.1 := RlC.keep hCτ2 h6.2.1 (by decide) (by decide) (by decide) (by decide)
  refine s_pop C dL_law_1145 rfl ?_
  refine s_goto (tgt := 1452) C dL_law_1146 (by decide) ?_
  exact K τ5 hXτ5 hIτ5 hRτ5 hCτ5
set_option maxRecDepth 100000 in
theorem lw_feed (l : Launch) (ad : Nat → Nat) (E : Ev) (C : Cx E l room_1 4 cL_law RL) (hN : Nx E (.methodLinkNest RX9 239 yX1_readCondition "RunCuts")) (b L : Nat) (xs : Nat → Int32) (SX : Sx E b L xs) (hL : L ≤ 2560) (σ : Sg) (hXσ : IX σ.1) (hIσ : IM σ.1) (hRσ : RlA σ.1) (hCσ : RlC σ.1) (i : Int32) (hi : 0 ≤ i.toInt ∧ i.toInt + 5 ≤ L) (K : ∀ τ : Sg, IX τ.1 → IM τ.1 → RlA τ.1 → RlC τ.1 → WP E ad 1452 [some (.ref b), some (.ref (ad 0)), some (.ref (ad 71)), some (.int i)] [] τ) : WP E ad 1149 [some (.ref b), some (.ref (ad 0)), some (.ref (ad 71)), some (.int i)] [] σ := by
  refine s_aload_n C dL_law_1149 rfl ?_
  refine s_aload_n C dL_law_1150 rfl ?_
  refine s_iload_n C dL_law_1151 rfl ?_
  refine s_iconst C dL_law_1152 (by decide) (fun z1 tz1 => ?_)
  refine s_iadd C dL_law_1153 (by omega) (fun z2 tz2 => ?_)
  refine s_sld C SX (by omega) dL_law_1154 ?_
  refine s_callVI (st := []) C (f_X9_feed l ad σ ((xs z2.toNatClampNeg)) hXσ) cv_L_143 y0 rfl rfl rfl ⟨by decide, by decide⟩ (Nat.le_of_ble_eq_true rfl) dL_law_1155 ?_
  intro r3 τ4 h5
  have hXτ4 := h5.1
  have gτ4 := Fr.ge h5.2.1 (by decide) (by decide)
  have hIτ4 : IM τ4.1 := IM.of gτ4 hIσ
  have hCτ4 : RlC τ4.1 := RlC.keep hCσ h5.2.1 (by decide) (by decide) (by decide) (by decide)
  refine s_pop C dL_law_1158 rfl ?_
  refine s_aload_n C dL_law_1159 rfl ?_
  refine s_aload_n C dL_law_1160 rfl ?_
  refine s_iload_n C dL_law_1161 rfl ?_
  refine s_iconst C dL_law_1162 (by decide) (fun z6 tz6 => ?_)
  refine s_iadd C dL_law_1163 (by omega) (fun z7 tz7 => ?_)
  rw [show z7 = z2 from ceq (by omega)]
  refine s_sld C SX (by omega) dL_law_1164 ?_
  refine s_callVI (st := []) C (f_X10_feed l ad τ4 ((xs z2.toNatClampNeg)) hIτ4) cv_L_146 y71 rfl rfl rfl ⟨by decide, by decide⟩ (Nat.le_of_ble_eq_true rfl) dL_law_1165 ?_
  intro r8 τ9 h10
  have hIτ9 := h10.1
  have gτ9 := Fr.lt h10.2.1 (by decide) (by decide)
  have hXτ9 : IX τ9.1 := IX.of gτ9 hXτ4
  have zτ9 := lr_feed hRσ gτ4 gτ9 h5.2.1 h10.2.1 h5.2.2 h10.2.2
  have hRτ9 : RlA τ9.1 := zτ9.1
  have zzτ9 := zτ9.2
  have hCτ9 : RlC τ9.1 := RlC.keep hCτ4 h10.2.1 (by decide) (by decide) (by decide) (by decide)
  refine s_pop C dL_law_1168 rfl ?_
  refine s_goto (tgt := 1452) C dL_law_1169 (by decide) ?_
  exact K τ9 hXτ9 hIτ9 hRτ9 hCτ9
set_option maxRecDepth 100000 in
theorem lw_wipe (l : Launch) (ad : Nat → Nat) (E : Ev) (C : Cx E l room_1 4 cL_law RL) (hN : Nx E (.methodLinkNest RX9 239 yX1_readCondition "RunCuts")) (b L : Nat) (xs : Nat → Int32) (SX : Sx E b L xs) (hL : L ≤ 2560) (σ : Sg) (hXσ : IX σ.1) (hIσ : IM σ.1) (hRσ : RlA σ.1) (hCσ : RlC σ.1) (i : Int32) (hi : 0 ≤ i.toInt ∧ i.toInt + 5 ≤ L) (K : ∀ τ : Sg, IX τ.1 → IM τ.1 → RlA τ.1 → RlC τ.1 → WP E ad 1452 [some (.ref b), some (.ref (ad 0)), some (.ref (ad 71)), some (.int i)] [] τ) : WP E ad 1172 [some (.ref b), some (.ref (ad 0)), some (.ref (ad 71)), some (.int i)] [] σ := by
  refine s_aload_n C dL_law_1172 rfl ?_
  refine s_callVI (st := []) C (c_X9_wipe l ad σ  hXσ) cv_L_147 y0 rfl rfl rfl ⟨by decide, by decide⟩ (Nat.le_of_ble_eq_true rfl) dL_law_1173 ?_
  intro r1 τ2 h3
  have hXτ2 := h3.1
  have gτ2 := Fr.ge h3.2.1 (by decide) (by decide)
  have hIτ2 : IM τ2.1 := IM.of gτ2 hIσ
  have hCτ2 : RlC τ2.1 := RlC.keep hCσ h3.2.1 (by decide) (by decide) (by decide) (by decide)
  refine s_pop C dL_law_1176 rfl ?_
  refine s_aload_n C dL_law_1177 rfl ?_
  refine s_callVI (st := []) C (c2_X10_wipe l ad τ2  hIτ2) cv_L_150 y71 rfl rfl rfl ⟨by decide, by decide⟩ (Nat.le_of_ble_eq_true rfl) dL_law_1178 ?_
  intro r4 τ5 h6
  have hIτ5 := h6.1
  have gτ5 := Fr.lt h6.2.1 (by decide) (by decide)
  have hXτ5 : IX τ5.1 := IX.of gτ5 hXτ2
  have zτ5 := lr_wipe hRσ gτ2 gτ5 h3.2.1 h6.2.1 h3.2.2 h6.2.2
  have hRτ5 : RlA τ5.1 := zτ5.1
  have zzτ5 := zτ5.2
  have hCτ5 : RlC τ5.1 := RlC.keep hCτ2 h6.2.1 (by decide) (by decide) (by decide) (by decide)
  refine s_pop C dL_law_1181 rfl ?_
  refine s_goto (tgt := 1452) C dL_law_1182 (by decide) ?_
  exact K τ5 hXτ5 hIτ5 hRτ5 hCτ5
set_option maxRecDepth 100000 in
theorem lw_tell (l : Launch) (ad : Nat → Nat) (E : Ev) (C : Cx E l room_1 4 cL_law RL) (hN : Nx E (.methodLinkNest RX9 239 yX1_readCondition "RunCuts")) (b L : Nat) (xs : Nat → Int32) (SX : Sx E b L xs) (hL : L ≤ 2560) (σ : Sg) (hXσ : IX σ.1) (hIσ : IM σ.1) (hRσ : RlA σ.1) (hCσ : RlC σ.1) (i : Int32) (hi : 0 ≤ i.toInt ∧ i.toInt + 5 ≤ L) (K : ∀ τ : Sg, IX τ.1 → IM τ.1 → RlA τ.1 → RlC τ.1 → WP E ad 1452 [some (.ref b), some (.ref (ad 0)), some (.ref (ad 71)), some (.int i)] [] τ) : WP E ad 1185 [some (.ref b), some (.ref (ad 0)), some (.ref (ad 71)), some (.int i)] [] σ := by
  refine s_aload_n C dL_law_1185 rfl ?_
  refine s_callVI (st := []) C (c_X9_tell l ad σ  hXσ) cv_L_151 y0 rfl rfl rfl ⟨by decide, by decide⟩ (Nat.le_of_ble_eq_true rfl) dL_law_1186 ?_
  intro r1 τ2 h3
  have hXτ2 := h3.1
  have gτ2 := Fr.ge h3.2.1 (by decide) (by decide)
  have hIτ2 : IM τ2.1 := IM.of gτ2 hIσ
  have hCτ2 : RlC τ2.1 := RlC.keep hCσ h3.2.1 (by decide) (by decide) (by decide) (by decide)
  refine s_pop C dL_law_1189 rfl ?_
  refine s_aload_n C dL_law_1190 rfl ?_
  refine s_callVI (st := []) C (c_X10_tell l ad τ2  hIτ2) cv_L_154 y71 rfl rfl rfl ⟨by decide, by decide⟩ (Nat.le_of_ble_eq_true rfl) dL_law_1191 ?_
  intro r4 τ5 h6
  have hIτ5 := h6.1
  have gτ5 := Fr.lt h6.2.1 (by decide) (by decide)
  have hXτ5 : IX τ5.1 := IX.of gτ5 hXτ2
  have zτ5 := lr_tell hRσ gτ2 gτ5 h3.2.1 h6.2.1 h3.2.2 h6.2.2
  have hRτ5 : RlA τ5.1 := zτ5
  have hCτ5 : RlC τ5.1 := RlC.keep hCτ2 h6.2.1 (by decide) (by decide) (by decide) (by decide)
  refine s_pop C dL_law_1194 rfl ?_
  refine s_goto (tgt := 1452) C dL_law_1195 (by decide) ?_
  exact K τ5 hXτ5 hIτ5 hRτ5 hCτ5
set_option maxRecDepth 100000 in
theorem lw_list (l : Launch) (ad : Nat → Nat) (E : Ev) (C : Cx E l room_1 4 cL_law RL) (hN : Nx E (.methodLinkNest RX9 239 yX1_readCondition "RunCuts")) (b L : Nat) (xs : Nat → Int32) (SX : Sx E b L xs) (hL : L ≤ 2560) (σ : Sg) (hXσ : IX σ.1) (hIσ : IM σ.1) (hRσ : RlA σ.1) (hCσ : RlC σ.1) (i : Int32) (hi : 0 ≤ i.toInt ∧ i.toInt + 5 ≤ L) (K : ∀ τ : Sg, IX τ.1 → IM τ.1 → RlA τ.1 → RlC τ.1 → WP E ad 1452 [some (.ref b), some (.ref (ad 0)), some (.ref (ad 71)), some (.int i)] [] τ) : WP E ad 1198 [some (.ref b), some (.ref (ad 0)), some (.ref (ad 71)), some (.int i)] [] σ := by
  refine s_aload_n C dL_law_1198 rfl ?_
  refine s_aload_n C dL_law_1199 rfl ?_
  refine s_iload_n C dL_law_1200 rfl ?_
  refine s_iconst C dL_law_1201 (by decide) (fun z1 tz1 => ?_)
  refine s_iadd C dL_law_1202 (by omega) (fun z2 tz2 => ?_)
  refine s_sld C SX (by omega) dL_law_1203 ?_
  refine s_aload_n C dL_law_1204 rfl ?_
  refine s_iload_n C dL_law_1205 rfl ?_
  refine s_iconst C dL_law_1206 (by decide) (fun z3 tz3 => ?_)
  refine s_iadd C dL_law_1207 (by omega) (fun z4 tz4 => ?_)
  refine s_sld C SX (by omega) dL_law_1208 ?_
  refine s_callVI (st := []) C (c_X9_list l ad σ ((xs z2.toNatClampNeg)) ((xs z4.toNatClampNeg)) hXσ) cv_L_155 y0 rfl rfl rfl ⟨by decide, by decide⟩ (Nat.le_of_ble_eq_true rfl) dL_law_1209 ?_
  intro r5 τ6 h7
  have hXτ6 := h7.1
  have gτ6 := Fr.ge h7.2.1 (by decide) (by decide)
  have hIτ6 : IM τ6.1 := IM.of gτ6 hIσ
  have hRτ6 : RlA τ6.1 := RlA.keep hRσ h7.2.1 (by decide) (by decide) (by decide) (by decide) (by decide)
  have hCτ6 : RlC τ6.1 := RlC.keep hCσ h7.2.1 (by decide) (by decide) (by decide) (by decide)
  refine s_pop C dL_law_1212 rfl ?_
  refine s_aload_n C dL_law_1213 rfl ?_
  refine s_aload_n C dL_law_1214 rfl ?_
  refine s_iload_n C dL_law_1215 rfl ?_
  refine s_iconst C dL_law_1216 (by decide) (fun z8 tz8 => ?_)
  refine s_iadd C dL_law_1217 (by omega) (fun z9 tz9 => ?_)
  rw [show z9 = z2 from ceq (by omega)]
  refine s_sld C SX (by omega) dL_law_1218 ?_
  refine s_aload_n C dL_law_1219 rfl ?_
  refine s_iload_n C dL_law_1220 rfl ?_
  refine s_iconst C dL_law_1221 (by decide) (fun z10 tz10 => ?_)
  refine s_iadd C dL_law_1222 (by omega) (fun z11 tz11 => ?_)
  rw [show z11 = z4 from ceq (by omega)]
  refine s_sld C SX (by omega) dL_law_1223 ?_
  refine s_callVI (st := []) C (c2_X10_list l ad τ6 ((xs z2.toNatClampNeg)) ((xs z4.toNatClampNeg)) hIτ6) cv_L_158 y71 rfl rfl rfl ⟨by decide, by decide⟩ (Nat.le_of_ble_eq_true rfl) dL_law_1224 ?_
  intro r12 τ13 h14
  have hIτ13 := h14.1
  have gτ13 := Fr.lt h14.2.1 (by decide) (by decide)
  have hXτ13 : IX τ13.1 := IX.of gτ13 hXτ6
  have hRτ13 : RlA τ13.1 := RlA.keep hRτ6 h14.2.1 (by decide) (by decide) (by decide) (by decide) (by decide)
  have zzτ13 := h14.2.2
  have hCτ13 : RlC τ13.1 := RlC.keep hCτ6 h14.2.1 (by decide) (by decide) (by decide) (by decide)
  refine s_pop C dL_law_1227 rfl ?_
  refine s_goto (tgt := 1452) C dL_law_1228 (by decide) ?_
  exact K τ13 hXτ13 hIτ13 hRτ13 hCτ13
set_option maxRecDepth 100000 in
theorem lw_lay (l : Launch) (ad : Nat → Nat) (E : Ev) (C : Cx E l room_1 4 cL_law RL) (hN : Nx E (.methodLinkNest RX9 239 yX1_readCondition "RunCuts")) (b L : Nat) (xs : Nat → Int32) (SX : Sx E b L xs) (hL : L ≤ 2560) (σ : Sg) (hXσ : IX σ.1) (hIσ : IM σ.1) (hRσ : RlA σ.1) (hCσ : RlC σ.1) (i : Int32) (hi : 0 ≤ i.toInt ∧ i.toInt + 5 ≤ L) (K : ∀ τ : Sg, IX τ.1 → IM τ.1 → RlA τ.1 → RlC τ.1 → WP E ad 1452 [some (.ref b), some (.ref (ad 0)), some (.ref (ad 71)), some (.int i)] [] τ) : WP E ad 1231 [some (.ref b), some (.ref (ad 0)), some (.ref (ad 71)), some (.int i)] [] σ := by
  refine s_aload_n C dL_law_1231 rfl ?_
  refine s_aload_n C dL_law_1232 rfl ?_
  refine s_iload_n C dL_law_1233 rfl ?_
  refine s_iconst C dL_law_1234 (by decide) (fun z1 tz1 => ?_)
  refine s_iadd C dL_law_1235 (by omega) (fun z2 tz2 => ?_)
  refine s_sld C SX (by omega) dL_law_1236 ?_
  refine s_aload_n C dL_law_1237 rfl ?_
  refine s_iload_n C dL_law_1238 rfl ?_
  refine s_iconst C dL_law_1239 (by decide) (fun z3 tz3 => ?_)
  refine s_iadd C dL_law_1240 (by omega) (fun z4 tz4 => ?_)
  refine s_sld C SX (by omega) dL_law_1241 ?_
  refine s_aload_n C dL_law_1242 rfl ?_
  refine s_iload_n C dL_law_1243 rfl ?_
  refine s_iconst C dL_law_1244 (by decide) (fun z5 tz5 => ?_)
  refine s_iadd C dL_law_1245 (by omega) (fun z6 tz6 => ?_)
  refine s_sld C SX (by omega) dL_law_1246 ?_
  refine s_i2l C dL_law_1247 (fun L7 tL7 => ?_)
  refine s_bipush C dL_law_1248 (by decide) (fun z8 tz8 => ?_)
  refine s_lshl C dL_law_1250 (fun L9 => ?_)
  refine s_aload_n C dL_law_1251 rfl ?_
  refine s_iload_n C dL_law_1252 rfl ?_
  refine s_iconst C dL_law_1253 (by decide) (fun z10 tz10 => ?_)
  refine s_iadd C dL_law_1254 (by omega) (fun z11 tz11 => ?_)
  refine s_sld C SX (by omega) dL_law_1255 ?_
  refine s_i2l C dL_law_1256 (fun L12 tL12 => ?_)
  obtain ⟨L13, eL13⟩ : ∃ q : Int64, q = 4294967295 := ⟨_, rfl⟩
  have tL13 : L13.toInt = 4294967295 := by rw [eL13]; rfl
  refine s_ldc2 (v := L13) C dL_law_1257 (by rw [eL13]; exact mw 1497 (by decide +kernel) rfl) ?_
  refine s_land C dL_law_1260 (fun L14 => ?_)
  refine s_lor C dL_law_1261 (fun L15 => ?_)
  refine s_callVI (st := []) C (c_X9_lay l ad σ ((xs z2.toNatClampNeg)) ((xs z4.toNatClampNeg)) L15 hXσ) cv_L_161 y0 rfl rfl rfl ⟨by decide, by decide⟩ (Nat.le_of_ble_eq_true rfl) dL_law_1262 ?_
  intro r16 τ17 h18
  have hXτ17 := h18.1
  have gτ17 := Fr.ge h18.2.1 (by decide) (by decide)
  have hIτ17 : IM τ17.1 := IM.of gτ17 hIσ
  have hRτ17 : RlA τ17.1 := RlA.keep hRσ h18.2.1 (by decide) (by decide) (by decide) (by decide) (by decide)
  have hCτ17 : RlC τ17.1 := RlC.keep hCσ h18.2.1 (by decide) (by decide) (by decide) (by decide)
  refine s_pop C dL_law_1265 rfl ?_
  refine s_aload_n C dL_law_1266 rfl ?_
  refine s_aload_n C dL_law_1267 rfl ?_
  refine s_iload_n C dL_law_1268 rfl ?_
  refine s_iconst C dL_law_1269 (by decide) (fun z19 tz19 => ?_)
  refine s_iadd C dL_law_1270 (by omega) (fun z20 tz20 => ?_)
  rw [show z20 = z2 from ceq (by omega)]
  refine s_sld C SX (by omega) dL_law_1271 ?_
  refine s_aload_n C dL_law_1272 rfl ?_
  refine s_iload_n C dL_law_1273 rfl ?_
  refine s_iconst C dL_law_1274 (by decide) (fun z21 tz21 => ?_)
  refine s_iadd C dL_law_1275 (by omega) (fun z22 tz22 => ?_)
  rw [show z22 = z4 from ceq (by omega)]
  refine s_sld C SX (by omega) dL_law_1276 ?_
  refine s_aload_n C dL_law_1277 rfl ?_
  refine s_iload_n C dL_law_1278 rfl ?_
  refine s_iconst C dL_law_1279 (by decide) (fun z23 tz23 => ?_)
  refine s_iadd C dL_law_1280 (by omega) (fun z24 tz24 => ?_)
  rw [show z24 = z6 from ceq (by omega)]
  refine s_sld C SX (by omega) dL_law_1281 ?_
  refine s_i2l C dL_law_1282 (fun L25 tL25 => ?_)
  refine s_bipush C dL_law_1283 (by decide) (fun z26 tz26 => ?_)
  refine s_lshl C dL_law_1285 (fun L27 => ?_)
  refine s_aload_n C dL_law_1286 rfl ?_
  refine s_iload_n C dL_law_1287 rfl ?_
  refine s_iconst C dL_law_1288 (by decide) (fun z28 tz28 => ?_)
  refine s_iadd C dL_law_1289 (by omega) (fun z29 tz29 => ?_)
  rw [show z29 = z11 from ceq (by omega)]
  refine s_sld C SX (by omega) dL_law_1290 ?_
  refine s_i2l C dL_law_1291 (fun L30 tL30 => ?_)
  obtain ⟨L31, eL31⟩ : ∃ q : Int64, q = 4294967295 := ⟨_, rfl⟩
  have tL31 : L31.toInt = 4294967295 := by rw [eL31]; rfl
  refine s_ldc2 (v := L31) C dL_law_1292 (by rw [eL31]; exact mw 1497 (by decide +kernel) rfl) ?_
  refine s_land C dL_law_1295 (fun L32 => ?_)
  refine s_lor C dL_law_1296 (fun L33 => ?_)
  refine s_callVI (st := []) C (c_X10_lay l ad τ17 ((xs z2.toNatClampNeg)) ((xs z4.toNatClampNeg)) L33 hIτ17) cv_L_165 y71 rfl rfl rfl ⟨by decide, by decide⟩ (Nat.le_of_ble_eq_true rfl) dL_law_1297 ?_
  intro r34 τ35 h36
  have hIτ35 := h36.1
  have gτ35 := Fr.lt h36.2 (by decide) (by decide)
  have hXτ35 : IX τ35.1 := IX.of gτ35 hXτ17
  have hRτ35 : RlA τ35.1 := RlA.keep hRτ17 h36.2 (by decide) (by decide) (by decide) (by decide) (by decide)
  have hCτ35 : RlC τ35.1 := RlC.keep hCτ17 h36.2 (by decide) (by decide) (by decide) (by decide)
  refine s_pop C dL_law_1300 rfl ?_
  refine s_goto (tgt := 1452) C dL_law_1301 (by decide) ?_
  exact K τ35 hXτ35 hIτ35 hRτ35 hCτ35
set_option maxRecDepth 100000 in
theorem lw_get (l : Launch) (ad : Nat → Nat) (E : Ev) (C : Cx E l room_1 4 cL_law RL) (hN : Nx E (.methodLinkNest RX9 239 yX1_readCondition "RunCuts")) (b L : Nat) (xs : Nat → Int32) (SX : Sx E b L xs) (hL : L ≤ 2560) (σ : Sg) (hXσ : IX σ.1) (hIσ : IM σ.1) (hRσ : RlA σ.1) (hCσ : RlC σ.1) (i : Int32) (hi : 0 ≤ i.toInt ∧ i.toInt + 5 ≤ L) (K : ∀ τ : Sg, IX τ.1 → IM τ.1 → RlA τ.1 → RlC τ.1 → WP E ad 1452 [some (.ref b), some (.ref (ad 0)), some (.ref (ad 71)), some (.int i)] [] τ) : WP E ad 1304 [some (.ref b), some (.ref (ad 0)), some (.ref (ad 71)), some (.int i)] [] σ := by
  refine s_aload_n C dL_law_1304 rfl ?_
  refine s_aload_n C dL_law_1305 rfl ?_
  refine s_iload_n C dL_law_1306 rfl ?_
  refine s_iconst C dL_law_1307 (by decide) (fun z1 tz1 => ?_)
  refine s_iadd C dL_law_1308 (by omega) (fun z2 tz2 => ?_)
  refine s_sld C SX (by omega) dL_law_1309 ?_
  refine s_aload_n C dL_law_1310 rfl ?_
  refine s_iload_n C dL_law_1311 rfl ?_
  refine s_iconst C dL_law_1312 (by decide) (fun z3 tz3 => ?_)
  refine s_iadd C dL_law_1313 (by omega) (fun z4 tz4 => ?_)
  refine s_sld C SX (by omega) dL_law_1314 ?_
  refine s_callVL (st := []) C (c_X9_get l ad σ ((xs z2.toNatClampNeg)) ((xs z4.toNatClampNeg)) hXσ) cv_L_166 y0 rfl rfl rfl ⟨by decide, by decide⟩ (Nat.le_of_ble_eq_true rfl) dL_law_1315 ?_
  intro r5 τ6 h7
  obtain ⟨eh7, h7⟩ := h7; replace eh7 := eh7.symm; subst eh7
  refine s_pop2 C dL_law_1318 rfl ?_
  refine s_aload_n C dL_law_1319 rfl ?_
  refine s_aload_n C dL_law_1320 rfl ?_
  refine s_iload_n C dL_law_1321 rfl ?_
  refine s_iconst C dL_law_1322 (by decide) (fun z8 tz8 => ?_)
  refine s_iadd C dL_law_1323 (by omega) (fun z9 tz9 => ?_)
  rw [show z9 = z2 from ceq (by omega)]
  refine s_sld C SX (by omega) dL_law_1324 ?_
  refine s_aload_n C dL_law_1325 rfl ?_
  refine s_iload_n C dL_law_1326 rfl ?_
  refine s_iconst C dL_law_1327 (by decide) (fun z10 tz10 => ?_)
  refine s_iadd C dL_law_1328 (by omega) (fun z11 tz11 => ?_)
  rw [show z11 = z4 from ceq (by omega)]
  refine s_sld C SX (by omega) dL_law_1329 ?_
  refine s_callVL (st := []) C (c_X10_get l ad σ ((xs z2.toNatClampNeg)) ((xs z4.toNatClampNeg)) hIσ) cv_L_170 y71 rfl rfl rfl ⟨by decide, by decide⟩ (Nat.le_of_ble_eq_true rfl) dL_law_1330 ?_
  intro r12 τ13 h14
  obtain ⟨eh14, h14⟩ := h14; replace eh14 := eh14.symm; subst eh14
  refine s_pop2 C dL_law_1333 rfl ?_
  refine s_goto (tgt := 1452) C dL_law_1334 (by decide) ?_
  exact K σ hXσ hIσ hRσ hCσ
set_option maxRecDepth 100000 in
theorem lw_film (l : Launch) (ad : Nat → Nat) (E : Ev) (C : Cx E l room_1 4 cL_law RL) (hN : Nx E (.methodLinkNest RX9 239 yX1_readCondition "RunCuts")) (b L : Nat) (xs : Nat → Int32) (SX : Sx E b L xs) (hL : L ≤ 2560) (σ : Sg) (hXσ : IX σ.1) (hIσ : IM σ.1) (hRσ : RlA σ.1) (hCσ : RlC σ.1) (i : Int32) (hi : 0 ≤ i.toInt ∧ i.toInt + 5 ≤ L) (K : ∀ τ : Sg, IX τ.1 → IM τ.1 → RlA τ.1 → RlC τ.1 → WP E ad 1452 [some (.ref b), some (.ref (ad 0)), some (.ref (ad 71)), some (.int i)] [] τ) : WP E ad 1337 [some (.ref b), some (.ref (ad 0)), some (.ref (ad 71)), some (.int i)] [] σ := by
  refine s_aload_n C dL_law_1337 rfl ?_
  refine s_aload_n C dL_law_1338 rfl ?_
  refine s_iload_n C dL_law_1339 rfl ?_
  refine s_iconst C dL_law_1340 (by decide) (fun z1 tz1 => ?_)
  refine s_iadd C dL_law_1341 (by omega) (fun z2 tz2 => ?_)
  refine s_sld C SX (by omega) dL_law_1342 ?_
  refine s_aload_n C dL_law_1343 rfl ?_
  refine s_iload_n C dL_law_1344 rfl ?_
  refine s_iconst C dL_law_1345 (by decide) (fun z3 tz3 => ?_)
  refine s_iadd C dL_law_1346 (by omega) (fun z4 tz4 => ?_)
  refine s_sld C SX (by omega) dL_law_1347 ?_
  refine s_callVI (st := []) C (c_X9_film l ad σ ((xs z2.toNatClampNeg)) ((xs z4.toNatClampNeg)) hXσ) cv_L_171 y0 rfl rfl rfl ⟨by decide, by decide⟩ (Nat.le_of_ble_eq_true rfl) dL_law_1348 ?_
  intro r5 τ6 h7
  have hXτ6 := h7.1
  have gτ6 := Fr.ge h7.2.1 (by decide) (by decide)
  have hIτ6 : IM τ6.1 := IM.of gτ6 hIσ
  have hRτ6 : RlA τ6.1 := RlA.keep hRσ h7.2.1 (by decide) (by decide) (by decide) (by decide) (by decide)
  have hCτ6 : RlC τ6.1 := RlC.keep hCσ h7.2.1 (by decide) (by decide) (by decide) (by decide)
  refine s_pop C dL_law_1351 rfl ?_
  refine s_aload_n C dL_law_1352 rfl ?_
  refine s_aload_n C dL_law_1353 rfl ?_
  refine s_iload_n C dL_law_1354 rfl ?_
  refine s_iconst C dL_law_1355 (by decide) (fun z8 tz8 => ?_)
  refine s_iadd C dL_law_1356 (by omega) (fun z9 tz9 => ?_)
  rw [show z9 = z2 from ceq (by omega)]
  refine s_sld C SX (by omega) dL_law_1357 ?_
  refine s_aload_n C dL_law_1358 rfl ?_
  refine s_iload_n C dL_law_1359 rfl ?_
  refine s_iconst C dL_law_1360 (by decide) (fun z10 tz10 => ?_)
  refine s_iadd C dL_law_1361 (by omega) (fun z11 tz11 => ?_)
  rw [show z11 = z4 from ceq (by omega)]
  refine s_sld C SX (by omega) dL_law_1362 ?_
  refine s_callVI (st := []) C (c_X10_film l ad τ6 ((xs z2.toNatClampNeg)) ((xs z4.toNatClampNeg)) hIτ6) cv_L_174 y71 rfl rfl rfl ⟨by decide, by decide⟩ (Nat.le_of_ble_eq_true rfl) dL_law_1363 ?_
  intro r12 τ13 h14
  have hIτ13 := h14.1
  have gτ13 := Fr.lt h14.2.1 (by decide) (by decide)
  have hXτ13 : IX τ13.1 := IX.of gτ13 hXτ6
  have hRτ13 : RlA τ13.1 := RlA.keep hRτ6 h14.2.1 (by decide) (by decide) (by decide) (by decide) (by decide)
  have hCτ13 : RlC τ13.1 := RlC.keep hCτ6 h14.2.1 (by decide) (by decide) (by decide) (by decide)
  refine s_pop C dL_law_1366 rfl ?_
  refine s_goto (tgt := 1452) C dL_law_1367 (by decide) ?_
  exact K τ13 hXτ13 hIτ13 hRτ13 hCτ13
set_option maxRecDepth 100000 in
theorem lw_judge (l : Launch) (ad : Nat → Nat) (E : Ev) (C : Cx E l room_1 4 cL_law RL) (hN : Nx E (.methodLinkNest RX9 239 yX1_readCondition "RunCuts")) (b L : Nat) (xs : Nat → Int32) (SX : Sx E b L xs) (hL : L ≤ 2560) (σ : Sg) (hXσ : IX σ.1) (hIσ : IM σ.1) (hRσ : RlA σ.1) (hCσ : RlC σ.1) (i : Int32) (hi : 0 ≤ i.toInt ∧ i.toInt + 5 ≤ L) (K : ∀ τ : Sg, IX τ.1 → IM τ.1 → RlA τ.1 → RlC τ.1 → WP E ad 1452 [some (.ref b), some (.ref (ad 0)), some (.ref (ad 71)), some (.int i)] [] τ) : WP E ad 1370 [some (.ref b), some (.ref (ad 0)), some (.ref (ad 71)), some (.int i)] [] σ := by
  refine s_aload_n C dL_law_1370 rfl ?_
  refine s_aload_n C dL_law_1371 rfl ?_
  refine s_iload_n C dL_law_1372 rfl ?_
  refine s_iconst C dL_law_1373 (by decide) (fun z1 tz1 => ?_)
  refine s_iadd C dL_law_1374 (by omega) (fun z2 tz2 => ?_)
  refine s_sld C SX (by omega) dL_law_1375 ?_
  refine s_aload_n C dL_law_1376 rfl ?_
  refine s_iload_n C dL_law_1377 rfl ?_
  refine s_iconst C dL_law_1378 (by decide) (fun z3 tz3 => ?_)
  refine s_iadd C dL_law_1379 (by omega) (fun z4 tz4 => ?_)
  refine s_sld C SX (by omega) dL_law_1380 ?_
  refine s_callVI (st := []) C (c_X9_judge l ad σ ((xs z2.toNatClampNeg)) ((xs z4.toNatClampNeg)) hXσ) cv_L_175 y0 rfl rfl rfl ⟨by decide, by decide⟩ (Nat.le_of_ble_eq_true rfl) dL_law_1381 ?_
  intro r5 τ6 h7
  have hXτ6 := h7.1
  have gτ6 := Fr.ge h7.2.1 (by decide) (by decide)
  have hIτ6 : IM τ6.1 := IM.of gτ6 hIσ
  have hRτ6 : RlA τ6.1 := RlA.keep hRσ h7.2.1 (by decide) (by decide) (by decide) (by decide) (by decide)
  have hCτ6 : RlC τ6.1 := RlC.keep hCσ h7.2.1 (by decide) (by decide) (by decide) (by decide)
  refine s_pop C dL_law_1384 rfl ?_
  refine s_aload_n C dL_law_1385 rfl ?_
  refine s_aload_n C dL_law_1386 rfl ?_
  refine s_iload_n C dL_law_1387 rfl ?_
  refine s_iconst C dL_law_1388 (by decide) (fun z8 tz8 => ?_)
  refine s_iadd C dL_law_1389 (by omega) (fun z9 tz9 => ?_)
  rw [show z9 = z2 from ceq (by omega)]
  refine s_sld C SX (by omega) dL_law_1390 ?_
  refine s_aload_n C dL_law_1391 rfl ?_
  refine s_iload_n C dL_law_1392 rfl ?_
  refine s_iconst C dL_law_1393 (by decide) (fun z10 tz10 => ?_)
  refine s_iadd C dL_law_1394 (by omega) (fun z11 tz11 => ?_)
  rw [show z11 = z4 from ceq (by omega)]
  refine s_sld C SX (by omega) dL_law_1395 ?_
  refine s_callVI (st := []) C (c_X10_judge l ad τ6 ((xs z2.toNatClampNeg)) ((xs z4.toNatClampNeg)) hIτ6) cv_L_178 y71 rfl rfl rfl ⟨by decide, by decide⟩ (Nat.le_of_ble_eq_true rfl) dL_law_1396 ?_
  intro r12 τ13 h14
  have hIτ13 := h14.1
  have gτ13 := Fr.lt h14.2.1 (by decide) (by decide)
  have hXτ13 : IX τ13.1 := IX.of gτ13 hXτ6
  have hRτ13 : RlA τ13.1 := RlA.keep hRτ6 h14.2.1 (by decide) (by decide) (by decide) (by decide) (by decide)
  have hCτ13 : RlC τ13.1 := RlC.keep hCτ6 h14.2.1 (by decide) (by decide) (by decide) (by decide)
  refine s_pop C dL_law_1399 rfl ?_
  refine s_goto (tgt := 1452) C dL_law_1400 (by decide) ?_
  exact K τ13 hXτ13 hIτ13 hRτ13 hCτ13
set_option maxRecDepth 100000 in
theorem lw_image (l : Launch) (ad : Nat → Nat) (E : Ev) (C : Cx E l room_1 4 cL_law RL) (hN : Nx E (.methodLinkNest RX9 239 yX1_readCondition "RunCuts")) (b L : Nat) (xs : Nat → Int32) (SX : Sx E b L xs) (hL : L ≤ 2560) (σ : Sg) (hXσ : IX σ.1) (hIσ : IM σ.1) (hRσ : RlA σ.1) (hCσ : RlC σ.1) (i : Int32) (hi : 0 ≤ i.toInt ∧ i.toInt + 5 ≤ L) (K : ∀ τ : Sg, IX τ.1 → IM τ.1 → RlA τ.1 → RlC τ.1 → WP E ad 1452 [some (.ref b), some (.ref (ad 0)), some (.ref (ad 71)), some (.int i)] [] τ) : WP E ad 1403 [some (.ref b), some (.ref (ad 0)), some (.ref (ad 71)), some (.int i)] [] σ := by
  refine s_aload_n C dL_law_1403 rfl ?_
  refine s_callVI (st := []) C (f_X9_image l ad σ  hXσ) cv_L_179 y0 rfl rfl rfl ⟨by decide, by decide⟩ (Nat.le_of_ble_eq_true rfl) dL_law_1404 ?_
  intro r1 τ2 h3
  have hXτ2 := h3.1
  have gτ2 := Fr.ge h3.2.1 (by decide) (by decide)
  have hIτ2 : IM τ2.1 := IM.of gτ2 hIσ
  refine s_pop C dL_law_1407 rfl ?_
  refine s_aload_n C dL_law_1408 rfl ?_
  refine s_callVI (st := []) C (f_X10_image l ad τ2  hIτ2) cv_L_182 y71 rfl rfl rfl ⟨by decide, by decide⟩ (Nat.le_of_ble_eq_true rfl) dL_law_1409 ?_
  intro r4 τ5 h6
  have hIτ5 := h6.1
  have gτ5 := Fr.lt h6.2.1 (by decide) (by decide)
  have hXτ5 : IX τ5.1 := IX.of gτ5 hXτ2
  have zτ5 := lr_image hRσ gτ2 gτ5 h3.2.1 h6.2.1 ⟨h3.2.2.1, h3.2.2.2.1, h3.2.2.2.2.1⟩ ⟨h6.2.2.1, h6.2.2.2.1, h6.2.2.2.2.1⟩
  have hRτ5 : RlA τ5.1 := zτ5
  have wτ5 := lc_image hCσ gτ2 gτ5 h3.2.1 h6.2.1 h3.2.2.2.2.2 h6.2.2.2.2.2
  have hCτ5 : RlC τ5.1 := wτ5
  refine s_pop C dL_law_1412 rfl ?_
  refine s_goto (tgt := 1452) C dL_law_1413 (by decide) ?_
  exact K τ5 hXτ5 hIτ5 hRτ5 hCτ5
set_option maxRecDepth 100000 in
theorem lw_undo (l : Launch) (ad : Nat → Nat) (E : Ev) (C : Cx E l room_1 4 cL_law RL) (hN : Nx E (.methodLinkNest RX9 239 yX1_readCondition "RunCuts")) (b L : Nat) (xs : Nat → Int32) (SX : Sx E b L xs) (hL : L ≤ 2560) (σ : Sg) (hXσ : IX σ.1) (hIσ : IM σ.1) (hRσ : RlA σ.1) (hCσ : RlC σ.1) (i : Int32) (hi : 0 ≤ i.toInt ∧ i.toInt + 5 ≤ L) (K : ∀ τ : Sg, IX τ.1 → IM τ.1 → RlA τ.1 → RlC τ.1 → WP E ad 1452 [some (.ref b), some (.ref (ad 0)), some (.ref (ad 71)), some (.int i)] [] τ) : WP E ad 1416 [some (.ref b), some (.ref (ad 0)), some (.ref (ad 71)), some (.int i)] [] σ := by
  refine s_aload_n C dL_law_1416 rfl ?_
  refine s_callVI (st := []) C (f_X9_undo l ad σ  hXσ) cv_L_183 y0 rfl rfl rfl ⟨by decide, by decide⟩ (Nat.le_of_ble_eq_true rfl) dL_law_1417 ?_
  intro r1 τ2 h3
  have hXτ2 := h3.1
  have gτ2 := Fr.ge h3.2.1 (by decide) (by decide)
  have hIτ2 : IM τ2.1 := IM.of gτ2 hIσ
  refine s_pop C dL_law_1420 rfl ?_
  refine s_aload_n C dL_law_1421 rfl ?_
  refine s_callVI (st := []) C (f_X10_undo l ad τ2  hIτ2) cv_L_186 y71 rfl rfl rfl ⟨by decide, by decide⟩ (Nat.le_of_ble_eq_true rfl) dL_law_1422 ?_
  intro r4 τ5 h6
  have hIτ5 := h6.1
  have gτ5 := Fr.lt h6.2.1 (by decide) (by decide)
  have hXτ5 : IX τ5.1 := IX.of gτ5 hXτ2
  have zτ5 := lr_undo hRσ gτ2 gτ5 h3.2.1 h6.2.1 h3.2.2.1 h6.2.2.1
  have hRτ5 : RlA τ5.1 := zτ5
  have wτ5 := lc_undo (hi := hRσ.2.2.2.1) hCσ gτ2 gτ5 h3.2.1 h6.2.1 h3.2.2.2 h6.2.2.2
  have hCτ5 : RlC τ5.1 := wτ5
  refine s_pop C dL_law_1425 rfl ?_
  refine s_goto (tgt := 1452) C dL_law_1426 (by decide) ?_
  exact K τ5 hXτ5 hIτ5 hRτ5 hCτ5
set_option maxRecDepth 100000 in
theorem lw_count (l : Launch) (ad : Nat → Nat) (E : Ev) (C : Cx E l room_1 4 cL_law RL) (hN : Nx E (.methodLinkNest RX9 239 yX1_readCondition "RunCuts")) (b L : Nat) (xs : Nat → Int32) (SX : Sx E b L xs) (hL : L ≤ 2560) (σ : Sg) (hXσ : IX σ.1) (hIσ : IM σ.1) (hRσ : RlA σ.1) (hCσ : RlC σ.1) (i : Int32) (hi : 0 ≤ i.toInt ∧ i.toInt + 5 ≤ L) (K : ∀ τ : Sg, IX τ.1 → IM τ.1 → RlA τ.1 → RlC τ.1 → WP E ad 1452 [some (.ref b), some (.ref (ad 0)), some (.ref (ad 71)), some (.int i)] [] τ) : WP E ad 1429 [some (.ref b), some (.ref (ad 0)), some (.ref (ad 71)), some (.int i)] [] σ := by
  refine s_aload_n C dL_law_1429 rfl ?_
  refine s_aload_n C dL_law_1430 rfl ?_
  refine s_iload_n C dL_law_1431 rfl ?_
  refine s_iconst C dL_law_1432 (by decide) (fun z1 tz1 => ?_)
  refine s_iadd C dL_law_1433 (by omega) (fun z2 tz2 => ?_)
  refine s_sld C SX (by omega) dL_law_1434 ?_
  refine s_callVI (st := []) C (c_X9_count l ad σ ((xs z2.toNatClampNeg)) hXσ) cv_L_187 y0 rfl rfl rfl ⟨by decide, by decide⟩ (Nat.le_of_ble_eq_true rfl) dL_law_1435 ?_
  intro r3 τ4 h5
  obtain ⟨eh5, h5⟩ := h5; replace eh5 := eh5.symm; subst eh5
  refine s_pop C dL_law_1438 rfl ?_
  refine s_aload_n C dL_law_1439 rfl ?_
  refine s_aload_n C dL_law_1440 rfl ?_
  refine s_iload_n C dL_law_1441 rfl ?_
  refine s_iconst C dL_law_1442 (by decide) (fun z6 tz6 => ?_)
  refine s_iadd C dL_law_1443 (by omega) (fun z7 tz7 => ?_)
  rw [show z7 = z2 from ceq (by omega)]
  refine s_sld C SX (by omega) dL_law_1444 ?_
  refine s_callVI (st := []) C (c_X10_count l ad σ ((xs z2.toNatClampNeg)) hIσ) cv_L_190 y71 rfl rfl rfl ⟨by decide, by decide⟩ (Nat.le_of_ble_eq_true rfl) dL_law_1445 ?_
  intro r8 τ9 h10
  obtain ⟨eh10, h10⟩ := h10; replace eh10 := eh10.symm; subst eh10
  refine s_pop C dL_law_1448 rfl ?_
  refine s_goto (tgt := 1452) C dL_law_1449 (by decide) ?_
  exact K σ hXσ hIσ hRσ hCσ
set_option maxRecDepth 100000 in
set_option maxHeartbeats 4000000 in
theorem lw_loop (l : Launch) (ad : Nat → Nat) (E : Ev) (C : Cx E l room_1 4 cL_law RL) (hN : Nx E (.methodLinkNest RX9 239 yX1_readCondition "RunCuts")) (b L : Nat) (xs : Nat → Int32) (SX : Sx E b L xs) (hL : L ≤ 2560) (XE : ∀ (lv : List (Option Value)) (σ : Sg), WP E ad 1458 lv [] σ) : ∀ (n : Nat) (σ : Sg) (i : Int32), IX σ.1 → IM σ.1 → RlA σ.1 → RlC σ.1 → (0 ≤ i.toInt ∧ i.toInt ≤ 2565) → (2570 - i.toInt).toNat < n → WP E ad 18 [some (.ref b), some (.ref (ad 0)), some (.ref (ad 71)), some (.int i)] [] σ := by
  intro n
  induction n with
  | zero => intro σ i hXσ hIσ hRσ hCσ hi hm; exact absurd hm (Nat.not_lt_zero _)
  | succ n ih =>
    intro σ i hXσ hIσ hRσ hCσ hi hm
    refine s_iload_n C dL_law_18 rfl ?_
    refine s_aload_n C dL_law_19 rfl ?_
    refine s_slen C SX (by omega) dL_law_20 (fun z1 tz1 => ?_)
    refine s_iconst C dL_law_21 (by decide) (fun z2 tz2 => ?_)
    refine s_isub C dL_law_22 (by omega) (fun z3 tz3 => ?_)
    refine s_icmp_gt (tgt := 1458) C dL_law_23 (by decide) (fun q4 => ?_) (fun q4 => ?_)
    · exact XE _ _
    · have KK : ∀ τ : Sg, IX τ.1 → IM τ.1 → RlA τ.1 → RlC τ.1 → WP E ad 1452 [some (.ref b), some (.ref (ad 0)), some (.ref (ad 71)), some (.int i)] [] τ := by
        intro τ h1 h2 h3 h4
        refine s_iinc C dL_law_1452 rfl (by decide) rfl (by decide) (by omega) (fun z1 tz1 => ?_)
        show WP E ad 1455 [some (.ref b), some (.ref (ad 0)), some (.ref (ad 71)), some (.int z1)] [] τ
        refine s_goto (tgt := 18) C dL_law_1455 (by decide) ?_
        exact ih τ z1 h1 h2 h3 h4 (by omega) (by omega)
      refine s_aload_n C dL_law_26 rfl ?_
      refine s_iload_n C dL_law_27 rfl ?_
      refine s_sld C SX (by omega) dL_law_28 ?_
      refine s_bipush C dL_law_29 (by decide) (fun z5 tz5 => ?_)
      refine s_iand C dL_law_31 (fun z6 tz6 => ?_)
      by_cases hsw : z6.toInt < 0 ∨ 41 < z6.toInt
      · refine s_tblOut (tgt := 1452) C dL_law_32 hsw (by decide) ?_
        exact KK σ hXσ hIσ hRσ hCσ
      by_cases hs0 : z6.toInt = 0
      · refine s_tblIn (off := 184) (tgt := 216) C dL_law_32 (by omega) (by omega) (by rw [hs0]; rfl) (by decide) ?_
        exact lw_processes l ad E C hN b L xs SX hL σ hXσ hIσ hRσ hCσ i (by omega) (fun τ h1 h2 h3 h4 => KK τ h1 h2 h3 h4)
      by_cases hs1 : z6.toInt = 1
      · refine s_tblIn (off := 207) (tgt := 239) C dL_law_32 (by omega) (by omega) (by rw [hs1]; rfl) (by decide) ?_
        exact lw_start l ad E C hN b L xs SX hL σ hXσ hIσ hRσ hCσ i (by omega) (fun τ h1 h2 h3 h4 => KK τ h1 h2 h3 h4)
      by_cases hs2 : z6.toInt = 2
      · refine s_tblIn (off := 240) (tgt := 272) C dL_law_32 (by omega) (by omega) (by rw [hs2]; rfl) (by decide) ?_
        exact lw_step l ad E C hN b L xs SX hL σ hXσ hIσ hRσ hCσ i (by omega) (fun τ h1 h2 h3 h4 => KK τ h1 h2 h3 h4)
      by_cases hs3 : z6.toInt = 3
      · refine s_tblIn (off := 273) (tgt := 305) C dL_law_32 (by omega) (by omega) (by rw [hs3]; rfl) (by decide) ?_
        exact lw_send l ad E C hN b L xs SX hL σ hXσ hIσ hRσ hCσ i (by omega) (fun τ h1 h2 h3 h4 => KK τ h1 h2 h3 h4)
      by_cases hs4 : z6.toInt = 4
      · refine s_tblIn (off := 306) (tgt := 338) C dL_law_32 (by omega) (by omega) (by rw [hs4]; rfl) (by decide) ?_
        exact lw_take l ad E C hN b L xs SX hL σ hXσ hIσ hRσ hCσ i (by omega) (fun τ h1 h2 h3 h4 => KK τ h1 h2 h3 h4)
      by_cases hs5 : z6.toInt = 5
      · refine s_tblIn (off := 349) (tgt := 381) C dL_law_32 (by omega) (by omega) (by rw [hs5]; rfl) (by decide) ?_
        exact lw_back l ad E C hN b L xs SX hL σ hXσ hIσ hRσ hCσ i (by omega) (fun τ h1 h2 h3 h4 => KK τ h1 h2 h3 h4)
      by_cases hs6 : z6.toInt = 6
      · refine s_tblIn (off := 362) (tgt := 394) C dL_law_32 (by omega) (by omega) (by rw [hs6]; rfl) (by decide) ?_
        exact lw_eventOf l ad E C hN b L xs SX hL σ hXσ hIσ hRσ hCσ i (by omega) (fun τ h1 h2 h3 h4 => KK τ h1 h2 h3 h4)
      by_cases hs7 : z6.toInt = 7
      · refine s_tblIn (off := 405) (tgt := 437) C dL_law_32 (by omega) (by omega) (by rw [hs7]; rfl) (by decide) ?_
        exact lw_clock l ad E C hN b L xs SX hL σ hXσ hIσ hRσ hCσ i (by omega) (fun τ h1 h2 h3 h4 => KK τ h1 h2 h3 h4)
      by_cases hs8 : z6.toInt = 8
      · refine s_tblIn (off := 448) (tgt := 480) C dL_law_32 (by omega) (by omega) (by rw [hs8]; rfl) (by decide) ?_
        exact lw_ahead l ad E C hN b L xs SX hL σ hXσ hIσ hRσ hCσ i (by omega) (fun τ h1 h2 h3 h4 => KK τ h1 h2 h3 h4)
      by_cases hs9 : z6.toInt = 9
      · refine s_tblIn (off := 501) (tgt := 533) C dL_law_32 (by omega) (by omega) (by rw [hs9]; rfl) (by decide) ?_
        exact lw_message l ad E C hN b L xs SX hL σ hXσ hIσ hRσ hCσ i (by omega) (fun τ h1 h2 h3 h4 => KK τ h1 h2 h3 h4)
      by_cases hs10 : z6.toInt = 10
      · refine s_tblIn (off := 534) (tgt := 566) C dL_law_32 (by omega) (by omega) (by rw [hs10]; rfl) (by decide) ?_
        exact lw_cuts l ad E C hN b L xs SX hL σ hXσ hIσ hRσ hCσ i (by omega) (fun τ h1 h2 h3 h4 => KK τ h1 h2 h3 h4)
      by_cases hs11 : z6.toInt = 11
      · refine s_tblIn (off := 547) (tgt := 579) C dL_law_32 (by omega) (by omega) (by rw [hs11]; rfl) (by decide) ?_
        exact lw_cut l ad E C hN b L xs SX hL σ hXσ hIσ hRσ hCσ i (by omega) (fun τ h1 h2 h3 h4 => KK τ h1 h2 h3 h4)
      by_cases hs12 : z6.toInt = 12
      · refine s_tblIn (off := 570) (tgt := 602) C dL_law_32 (by omega) (by omega) (by rw [hs12]; rfl) (by decide) ?_
        exact lw_which l ad E C hN b L xs SX hL σ hXσ hIσ hRσ hCσ i (by omega) (fun τ h1 h2 h3 h4 => KK τ h1 h2 h3 h4)
      by_cases hs13 : z6.toInt = 13
      · refine s_tblIn (off := 593) (tgt := 625) C dL_law_32 (by omega) (by omega) (by rw [hs13]; rfl) (by decide) ?_
        exact lw_level l ad E C hN b L xs SX hL σ hXσ hIσ hRσ hCσ i (by omega) (fun τ h1 h2 h3 h4 => KK τ h1 h2 h3 h4)
      by_cases hs14 : z6.toInt = 14
      · refine s_tblIn (off := 616) (tgt := 648) C dL_law_32 (by omega) (by omega) (by rw [hs14]; rfl) (by decide) ?_
        exact lw_next l ad E C hN b L xs SX hL σ hXσ hIσ hRσ hCσ i (by omega) (fun τ h1 h2 h3 h4 => KK τ h1 h2 h3 h4)
      by_cases hs15 : z6.toInt = 15
      · refine s_tblIn (off := 649) (tgt := 681) C dL_law_32 (by omega) (by omega) (by rw [hs15]; rfl) (by decide) ?_
        exact lw_meet l ad E C hN b L xs SX hL σ hXσ hIσ hRσ hCσ i (by omega) (fun τ h1 h2 h3 h4 => KK τ h1 h2 h3 h4)
      by_cases hs16 : z6.toInt = 16
      · refine s_tblIn (off := 682) (tgt := 714) C dL_law_32 (by omega) (by omega) (by rw [hs16]; rfl) (by decide) ?_
        exact lw_join l ad E C hN b L xs SX hL σ hXσ hIσ hRσ hCσ i (by omega) (fun τ h1 h2 h3 h4 => KK τ h1 h2 h3 h4)
      by_cases hs17 : z6.toInt = 17
      · refine s_tblIn (off := 715) (tgt := 747) C dL_law_32 (by omega) (by omega) (by rw [hs17]; rfl) (by decide) ?_
        exact lw_under l ad E C hN b L xs SX hL σ hXσ hIσ hRσ hCσ i (by omega) (fun τ h1 h2 h3 h4 => KK τ h1 h2 h3 h4)
      by_cases hs18 : z6.toInt = 18
      · refine s_tblIn (off := 738) (tgt := 770) C dL_law_32 (by omega) (by omega) (by rw [hs18]; rfl) (by decide) ?_
        exact lw_value l ad E C hN b L xs SX hL σ hXσ hIσ hRσ hCσ i (by omega) (fun τ h1 h2 h3 h4 => KK τ h1 h2 h3 h4)
      by_cases hs19 : z6.toInt = 19
      · refine s_tblIn (off := 771) (tgt := 803) C dL_law_32 (by omega) (by omega) (by rw [hs19]; rfl) (by decide) ?_
        exact lw_ways l ad E C hN b L xs SX hL σ hXσ hIσ hRσ hCσ i (by omega) (fun τ h1 h2 h3 h4 => KK τ h1 h2 h3 h4)
      by_cases hs20 : z6.toInt = 20
      · refine s_tblIn (off := 794) (tgt := 826) C dL_law_32 (by omega) (by omega) (by rw [hs20]; rfl) (by decide) ?_
        exact lw_read l ad E C hN b L xs SX hL σ hXσ hIσ hRσ hCσ i (by omega) (fun τ h1 h2 h3 h4 => KK τ h1 h2 h3 h4)
      by_cases hs21 : z6.toInt = 21
      · refine s_tblIn (off := 817) (tgt := 849) C dL_law_32 (by omega) (by omega) (by rw [hs21]; rfl) (by decide) ?_
        exact lw_holds l ad E C hN b L xs SX hL σ hXσ hIσ hRσ hCσ i (by omega) (fun τ h1 h2 h3 h4 => KK τ h1 h2 h3 h4)
      by_cases hs22 : z6.toInt = 22
      · refine s_tblIn (off := 850) (tgt := 882) C dL_law_32 (by omega) (by omega) (by rw [hs22]; rfl) (by decide) ?_
        exact lw_possible l ad E C hN b L xs SX hL σ hXσ hIσ hRσ hCσ i (by omega) (fun τ h1 h2 h3 h4 => KK τ h1 h2 h3 h4)
      by_cases hs23 : z6.toInt = 23
      · refine s_tblIn (off := 883) (tgt := 915) C dL_law_32 (by omega) (by omega) (by rw [hs23]; rfl) (by decide) ?_
        exact lw_sure l ad E C hN b L xs SX hL σ hXσ hIσ hRσ hCσ i (by omega) (fun τ h1 h2 h3 h4 => KK τ h1 h2 h3 h4)
      by_cases hs24 : z6.toInt = 24
      · refine s_tblIn (off := 906) (tgt := 938) C dL_law_32 (by omega) (by omega) (by rw [hs24]; rfl) (by decide) ?_
        exact lw_around l ad E C hN b L xs SX hL σ hXσ hIσ hRσ hCσ i (by omega) (fun τ h1 h2 h3 h4 => KK τ h1 h2 h3 h4)
      by_cases hs25 : z6.toInt = 25
      · refine s_tblIn (off := 939) (tgt := 971) C dL_law_32 (by omega) (by omega) (by rw [hs25]; rfl) (by decide) ?_
        exact lw_slice l ad E C hN b L xs SX hL σ hXσ hIσ hRσ hCσ i (by omega) (fun τ h1 h2 h3 h4 => KK τ h1 h2 h3 h4)
      by_cases hs26 : z6.toInt = 26
      · refine s_tblIn (off := 972) (tgt := 1004) C dL_law_32 (by omega) (by omega) (by rw [hs26]; rfl) (by decide) ?_
        exact lw_regular l ad E C hN b L xs SX hL σ hXσ hIσ hRσ hCσ i (by omega) (fun τ h1 h2 h3 h4 => KK τ h1 h2 h3 h4)
      by_cases hs27 : z6.toInt = 27
      · refine s_tblIn (off := 995) (tgt := 1027) C dL_law_32 (by omega) (by omega) (by rw [hs27]; rfl) (by decide) ?_
        exact lw_least l ad E C hN b L xs SX hL σ hXσ hIσ hRσ hCσ i (by omega) (fun τ h1 h2 h3 h4 => KK τ h1 h2 h3 h4)
      by_cases hs28 : z6.toInt = 28
      · refine s_tblIn (off := 1038) (tgt := 1070) C dL_law_32 (by omega) (by omega) (by rw [hs28]; rfl) (by decide) ?_
        exact lw_forget l ad E C hN b L xs SX hL σ hXσ hIσ hRσ hCσ i (by omega) (fun τ h1 h2 h3 h4 => KK τ h1 h2 h3 h4)
      by_cases hs29 : z6.toInt = 29
      · refine s_tblIn (off := 1061) (tgt := 1093) C dL_law_32 (by omega) (by omega) (by rw [hs29]; rfl) (by decide) ?_
        exact lw_mark l ad E C hN b L xs SX hL σ hXσ hIσ hRσ hCσ i (by omega) (fun τ h1 h2 h3 h4 => KK τ h1 h2 h3 h4)
      by_cases hs30 : z6.toInt = 30
      · refine s_tblIn (off := 1104) (tgt := 1136) C dL_law_32 (by omega) (by omega) (by rw [hs30]; rfl) (by decide) ?_
        exact lw_line l ad E C hN b L xs SX hL σ hXσ hIσ hRσ hCσ i (by omega) (fun τ h1 h2 h3 h4 => KK τ h1 h2 h3 h4)
      by_cases hs31 : z6.toInt = 31
      · refine s_tblIn (off := 1117) (tgt := 1149) C dL_law_32 (by omega) (by omega) (by rw [hs31]; rfl) (by decide) ?_
        exact lw_feed l ad E C hN b L xs SX hL σ hXσ hIσ hRσ hCσ i (by omega) (fun τ h1 h2 h3 h4 => KK τ h1 h2 h3 h4)
      by_cases hs32 : z6.toInt = 32
      · refine s_tblIn (off := 1140) (tgt := 1172) C dL_law_32 (by omega) (by omega) (by rw [hs32]; rfl) (by decide) ?_
        exact lw_wipe l ad E C hN b L xs SX hL σ hXσ hIσ hRσ hCσ i (by omega) (fun τ h1 h2 h3 h4 => KK τ h1 h2 h3 h4)
      by_cases hs33 : z6.toInt = 33
      · refine s_tblIn (off := 1153) (tgt := 1185) C dL_law_32 (by omega) (by omega) (by rw [hs33]; rfl) (by decide) ?_
        exact lw_tell l ad E C hN b L xs SX hL σ hXσ hIσ hRσ hCσ i (by omega) (fun τ h1 h2 h3 h4 => KK τ h1 h2 h3 h4)
      by_cases hs34 : z6.toInt = 34
      · refine s_tblIn (off := 1166) (tgt := 1198) C dL_law_32 (by omega) (by omega) (by rw [hs34]; rfl) (by decide) ?_
        exact lw_list l ad E C hN b L xs SX hL σ hXσ hIσ hRσ hCσ i (by omega) (fun τ h1 h2 h3 h4 => KK τ h1 h2 h3 h4)
      by_cases hs35 : z6.toInt = 35
      · refine s_tblIn (off := 1199) (tgt := 1231) C dL_law_32 (by omega) (by omega) (by rw [hs35]; rfl) (by decide) ?_
        exact lw_lay l ad E C hN b L xs SX hL σ hXσ hIσ hRσ hCσ i (by omega) (fun τ h1 h2 h3 h4 => KK τ h1 h2 h3 h4)
      by_cases hs36 : z6.toInt = 36
      · refine s_tblIn (off := 1272) (tgt := 1304) C dL_law_32 (by omega) (by omega) (by rw [hs36]; rfl) (by decide) ?_
        exact lw_get l ad E C hN b L xs SX hL σ hXσ hIσ hRσ hCσ i (by omega) (fun τ h1 h2 h3 h4 => KK τ h1 h2 h3 h4)
      by_cases hs37 : z6.toInt = 37
      · refine s_tblIn (off := 1305) (tgt := 1337) C dL_law_32 (by omega) (by omega) (by rw [hs37]; rfl) (by decide) ?_
        exact lw_film l ad E C hN b L xs SX hL σ hXσ hIσ hRσ hCσ i (by omega) (fun τ h1 h2 h3 h4 => KK τ h1 h2 h3 h4)
      by_cases hs38 : z6.toInt = 38
      · refine s_tblIn (off := 1338) (tgt := 1370) C dL_law_32 (by omega) (by omega) (by rw [hs38]; rfl) (by decide) ?_
        exact lw_judge l ad E C hN b L xs SX hL σ hXσ hIσ hRσ hCσ i (by omega) (fun τ h1 h2 h3 h4 => KK τ h1 h2 h3 h4)
      by_cases hs39 : z6.toInt = 39
      · refine s_tblIn (off := 1371) (tgt := 1403) C dL_law_32 (by omega) (by omega) (by rw [hs39]; rfl) (by decide) ?_
        exact lw_image l ad E C hN b L xs SX hL σ hXσ hIσ hRσ hCσ i (by omega) (fun τ h1 h2 h3 h4 => KK τ h1 h2 h3 h4)
      by_cases hs40 : z6.toInt = 40
      · refine s_tblIn (off := 1384) (tgt := 1416) C dL_law_32 (by omega) (by omega) (by rw [hs40]; rfl) (by decide) ?_
        exact lw_undo l ad E C hN b L xs SX hL σ hXσ hIσ hRσ hCσ i (by omega) (fun τ h1 h2 h3 h4 => KK τ h1 h2 h3 h4)
      by_cases hs41 : z6.toInt = 41
      · refine s_tblIn (off := 1397) (tgt := 1429) C dL_law_32 (by omega) (by omega) (by rw [hs41]; rfl) (by decide) ?_
        exact lw_count l ad E C hN b L xs SX hL σ hXσ hIσ hRσ hCσ i (by omega) (fun τ h1 h2 h3 h4 => KK τ h1 h2 h3 h4)
      omega
