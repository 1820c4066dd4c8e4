set_option maxHeartbeats 40000000 in
set_option maxRecDepth 100000 in
theorem L_meets (l : Launch) (ad : Nat → Nat) (E : Ev) (σ : Sg) (hI : IM σ.1) (c i : Int32) (B n : Nat) (hc : 0 ≤ c.toInt ∧ c.toInt ≤ 2) (hBc : (B : Int) = 60 * c.toInt) (hn : n ≤ 60) (hi : 0 ≤ i.toInt ∧ i.toInt ≤ 1295) (C : Cx E l (rmk 5) 8 cX10_meets RX10) (X : Rx E ad (some .boolean) (oI (fun r τ => Fr [110, 111, 112] [(71, 47), (71, 53)] σ τ ∧ (r.toInt = 0 ∨ r.toInt = 1))))  : ∀ (m : Nat) (τ : Sg) (d : Int32) (y : Int32) (z : Int32), (Fr [110, 111, 112] [(71, 47), (71, 53)] σ τ) → ((τ.1 71 47).toInt = B + n) → (MI (σ.1 71 0).toInt (fun q => σ.1 85 (B + q)) n B d.toInt z.toInt) → (y.toInt = 0 ∨ y.toInt = 1) → ((B + n : Int) - z.toInt).toNat < m → WP E ad 40 [some (.ref (ad 71)), some (.int c), some (.int i), some (.int d), some (.int y), some (.int z), none, none] [] τ := by
  intro m
  induction m with
  | zero => intro τ d y z kF k47 hM hy hm9; exact absurd hm9 (Nat.not_lt_zero _)
  | succ m ih =>
    intro τ d y z kF k47 hM hy hm9
    obtain ⟨f, s, q, o, hz, hqn, hd, h5, hs, hac⟩ := id hM
    have hct : o.count true ≤ o.length := List.count_le_length
    have e85 : τ.1 85 = σ.1 85 := kF.a 85 (by decide) (by decide)
    have e0 : τ.1 71 0 = σ.1 71 0 := kF.f 71 0 (by decide) (by decide)
    have ek : Int32.toInt (τ.1 85 z.toNatClampNeg) = Int32.toInt (σ.1 85 (B + q)) := by rw [e85, show z.toNatClampNeg = B + q by unfold Int32.toNatClampNeg; omega]
    have hs3 : s = 0 ∨ s = 3 ∨ s = 2 := by omega
    refine s_iload C dX10_meets_40 rfl ?_
    refine s_aload_n C dX10_meets_42 rfl ?_
    refine s_get (k := 47) (x := (τ.1 71 47)) C y71 fw_X10_280 rfl rfl dX10_meets_43 ?_
    refine s_icmp_ge (tgt := 318) C dX10_meets_46 (by decide) (fun q1 => ?_) (fun q1 => ?_)
    · refine s_aload_n C dX10_meets_318 rfl ?_
      refine s_getr (k := 50) (j := 110) C y71 fw_X10_131 rfl dX10_meets_319 ?_
      refine s_iconst C dX10_meets_322 (by decide) (fun z2 tz2 => ?_)
      refine s_zald (r := (τ.1 110 z2.toNatClampNeg)) C y110 (by omega) rfl dX10_meets_323 ?_
      refine s_if_ne (tgt := 336) C dX10_meets_324 (by decide) (fun q3 => ?_) (fun q3 => ?_)
      · refine s_iconst C dX10_meets_336 (by decide) (fun z4 tz4 => ?_)
        refine s_goto (tgt := 341) C dX10_meets_337 (by decide) ?_
        exact s_zret C (by omega) X dX10_meets_341 ⟨(Fr.tr Fr.rf (Fr.mo kF (by decide) (by decide))), by omega⟩
      · refine s_aload_n C dX10_meets_327 rfl ?_
        refine s_getr (k := 51) (j := 111) C y71 fw_X10_135 rfl dX10_meets_328 ?_
        refine s_iconst C dX10_meets_331 (by decide) (fun z5 tz5 => ?_)
        refine s_zald (r := (τ.1 111 z5.toNatClampNeg)) C y111 (by omega) rfl dX10_meets_332 ?_
        refine s_if_eq (tgt := 340) C dX10_meets_333 (by decide) (fun q6 => ?_) (fun q6 => ?_)
        · refine s_iconst C dX10_meets_340 (by decide) (fun z7 tz7 => ?_)
          exact s_zret C (by omega) X dX10_meets_341 ⟨(Fr.tr Fr.rf (Fr.mo kF (by decide) (by decide))), by omega⟩
        · refine s_iconst C dX10_meets_336 (by decide) (fun z8 tz8 => ?_)
          refine s_goto (tgt := 341) C dX10_meets_337 (by decide) ?_
          exact s_zret C (by omega) X dX10_meets_341 ⟨(Fr.tr Fr.rf (Fr.mo kF (by decide) (by decide))), by omega⟩
    · refine s_aload_n C dX10_meets_49 rfl ?_
      refine s_getr (k := 16) (j := 85) C y71 fw_X10_55 rfl dX10_meets_50 ?_
      refine s_iload C dX10_meets_53 rfl ?_
      refine s_iald (r := (τ.1 85 z.toNatClampNeg)) C y85 (by omega) rfl dX10_meets_55 ?_
      refine s_istore C dX10_meets_56 (by decide) (Nat.le_of_ble_eq_true rfl) rfl ?_
      show WP E ad 58 [some (.ref (ad 71)), some (.int c), some (.int i), some (.int d), some (.int y), some (.int z), some (.int (τ.1 85 z.toNatClampNeg)), none] [] τ
      refine s_iload C dX10_meets_58 rfl ?_
      refine s_bipush C dX10_meets_60 (by decide) (fun z9 tz9 => ?_)
      refine s_icmp_ne (tgt := 83) C dX10_meets_62 (by decide) (fun q10 => ?_) (fun q10 => ?_)
      · refine s_iload C dX10_meets_83 rfl ?_
        refine s_bipush C dX10_meets_85 (by decide) (fun z11 tz11 => ?_)
        refine s_icmp_ne (tgt := 124) C dX10_meets_87 (by decide) (fun q12 => ?_) (fun q12 => ?_)
        · refine s_iload C dX10_meets_124 rfl ?_
          refine s_bipush C dX10_meets_126 (by decide) (fun z13 tz13 => ?_)
          refine s_icmp_ne (tgt := 208) C dX10_meets_128 (by decide) (fun q14 => ?_) (fun q14 => ?_)
          · refine s_iload C dX10_meets_208 rfl ?_
            refine s_bipush C dX10_meets_210 (by decide) (fun z15 tz15 => ?_)
            refine s_icmp_ne (tgt := 257) C dX10_meets_212 (by decide) (fun q16 => ?_) (fun q16 => ?_)
            · refine s_iload C dX10_meets_257 rfl ?_
              refine s_bipush C dX10_meets_259 (by decide) (fun z17 tz17 => ?_)
              refine s_icmp_ne (tgt := 270) C dX10_meets_261 (by decide) (fun q18 => ?_) (fun q18 => ?_)
              · skip
                have hch : ¬ (Int32.toInt (σ.1 85 (B + q)) = 33 ∨ Int32.toInt (σ.1 85 (B + q)) = 40) := by omega
                have hac0 := ac_else hac (by omega) hs (by show ¬ (Int32.toInt (σ.1 85 (B + q)) = 33 ∨ Int32.toInt (σ.1 85 (B + q)) = 40 ∨ Int32.toInt (σ.1 85 (B + q)) = 41 ∨ Int32.toInt (σ.1 85 (B + q)) = 38 ∨ Int32.toInt (σ.1 85 (B + q)) = 124); omega)
                have hqn2 : q < n := by omega
                clear hs hs3 q10 q12 q14 q16 q18
                refine s_aload_n C dX10_meets_270 rfl ?_
                refine s_iload_n C dX10_meets_271 rfl ?_
                refine s_iload C dX10_meets_272 rfl ?_
                refine s_callVI (st := []) C (c_X10_compare l ad τ i z (IM.keep hI kF (by decide) (by decide) (by decide)) hi B n q f o (by omega) k47 hz (by rw [e85, e0]; exact hac0) (by rw [e85]; exact hch)) cv_X10_283 y71 rfl rfl rfl ⟨by decide, by decide⟩ (Nat.le_of_ble_eq_true rfl) dX10_meets_274 ?_
                intro r19 τ20 h21
                have bh21 := h21.2.1
                have ch21 := h21.2.2
                rw [e85, e0] at ch21
                have f47 : Int32.toInt (τ20.1 71 47) = B + n := (congrArg Int32.toInt (h21.1.f 71 47 (by decide) (by decide))).trans k47
                clear hch
                obtain ⟨j6, f6, b6, a6, n6, k6, l6⟩ := ch21
                refine s_istore C dX10_meets_277 (by decide) (Nat.le_of_ble_eq_true rfl) rfl ?_
                show WP E ad 279 [some (.ref (ad 71)), some (.int c), some (.int i), some (.int d), some (.int y), some (.int z), some (.int (τ.1 85 z.toNatClampNeg)), some (.int r19)] [] τ20
                refine s_aload_n C dX10_meets_279 rfl ?_
                refine s_getr (k := 51) (j := 111) C y71 fw_X10_135 rfl dX10_meets_280 ?_
                refine s_iload_n C dX10_meets_283 rfl ?_
                refine s_aload_n C dX10_meets_284 rfl ?_
                refine s_getr (k := 51) (j := 111) C y71 fw_X10_135 rfl dX10_meets_285 ?_
                refine s_iload_n C dX10_meets_288 rfl ?_
                refine s_zald (r := (τ20.1 111 d.toNatClampNeg)) C y111 (by omega) rfl dX10_meets_289 ?_
                refine s_if_eq (tgt := 304) C dX10_meets_290 (by decide) (fun q22 => ?_) (fun q22 => ?_)
                · refine s_iconst C dX10_meets_304 (by decide) (fun z23 tz23 => ?_)
                  refine s_zast C y111 (by omega) (by omega) dX10_meets_305 ?_
                  refine s_iconst C dX10_meets_306 (by decide) (fun z24 tz24 => ?_)
                  refine s_istore C dX10_meets_307 (by decide) (Nat.le_of_ble_eq_true rfl) rfl ?_
                  show WP E ad 309 [some (.ref (ad 71)), some (.int c), some (.int i), some (.int d), some (.int z24), some (.int z), some (.int (τ.1 85 z.toNatClampNeg)), some (.int r19)] [] (sV τ20 111 d.toNatClampNeg z23)
                  refine s_aload_n C dX10_meets_309 rfl ?_
                  refine s_get (k := 53) (x := (τ20.1 71 53)) C y71 fw_X10_286 rfl rfl dX10_meets_310 ?_
                  refine s_istore C dX10_meets_313 (by decide) (Nat.le_of_ble_eq_true rfl) rfl ?_
                  show WP E ad 315 [some (.ref (ad 71)), some (.int c), some (.int i), some (.int d), some (.int z24), some (.int (τ20.1 71 53)), some (.int (τ.1 85 z.toNatClampNeg)), some (.int r19)] [] (sV τ20 111 d.toNatClampNeg z23)
                  refine s_goto (tgt := 40) C dX10_meets_315 (by decide) ?_
                  refine wp_le (lv' := [some (.ref (ad 71)), some (.int c), some (.int i), some (.int d), some (.int z24), some (.int (τ20.1 71 53)), none, none]) ⟨rfl, ⟨rfl, ⟨rfl, ⟨rfl, ⟨rfl, ⟨rfl, trivial⟩⟩⟩⟩⟩⟩ ?_
                  have hm6 : ((B + n : Int) - Int32.toInt (τ20.1 71 53)).toNat < m := by clear n6; omega
                  exact ih (sV τ20 111 d.toNatClampNeg z23) d z24 (τ20.1 71 53) (Fr.sV (Fr.tr (Fr.tr Fr.rf (Fr.mo kF (by decide) (by decide))) (Fr.mo h21.1 (by decide) (by decide))) (Or.inl (by decide))) f47 ⟨f6, 2, j6, o, b6, l6, hd, h5, Or.inr (Or.inr ⟨rfl, n6⟩), a6⟩ (Or.inl tz24) hm6
                · refine s_iload C dX10_meets_293 rfl ?_
                  refine s_iload C dX10_meets_295 rfl ?_
                  refine s_icmp_eq (tgt := 304) C dX10_meets_297 (by decide) (fun q25 => ?_) (fun q25 => ?_)
                  · refine s_iconst C dX10_meets_304 (by decide) (fun z26 tz26 => ?_)
                    refine s_zast C y111 (by omega) (by omega) dX10_meets_305 ?_
                    refine s_iconst C dX10_meets_306 (by decide) (fun z27 tz27 => ?_)
                    refine s_istore C dX10_meets_307 (by decide) (Nat.le_of_ble_eq_true rfl) rfl ?_
                    show WP E ad 309 [some (.ref (ad 71)), some (.int c), some (.int i), some (.int d), some (.int z27), some (.int z), some (.int (τ.1 85 z.toNatClampNeg)), some (.int r19)] [] (sV τ20 111 d.toNatClampNeg z26)
                    refine s_aload_n C dX10_meets_309 rfl ?_
                    refine s_get (k := 53) (x := (τ20.1 71 53)) C y71 fw_X10_286 rfl rfl dX10_meets_310 ?_
                    refine s_istore C dX10_meets_313 (by decide) (Nat.le_of_ble_eq_true rfl) rfl ?_
                    show WP E ad 315 [some (.ref (ad 71)), some (.int c), some (.int i), some (.int d), some (.int z27), some (.int (τ20.1 71 53)), some (.int (τ.1 85 z.toNatClampNeg)), some (.int r19)] [] (sV τ20 111 d.toNatClampNeg z26)
                    refine s_goto (tgt := 40) C dX10_meets_315 (by decide) ?_
                    refine wp_le (lv' := [some (.ref (ad 71)), some (.int c), some (.int i), some (.int d), some (.int z27), some (.int (τ20.1 71 53)), none, none]) ⟨rfl, ⟨rfl, ⟨rfl, ⟨rfl, ⟨rfl, ⟨rfl, trivial⟩⟩⟩⟩⟩⟩ ?_
                    have hm6 : ((B + n : Int) - Int32.toInt (τ20.1 71 53)).toNat < m := by clear n6; omega
                    exact ih (sV τ20 111 d.toNatClampNeg z26) d z27 (τ20.1 71 53) (Fr.sV (Fr.tr (Fr.tr Fr.rf (Fr.mo kF (by decide) (by decide))) (Fr.mo h21.1 (by decide) (by decide))) (Or.inl (by decide))) f47 ⟨f6, 2, j6, o, b6, l6, hd, h5, Or.inr (Or.inr ⟨rfl, n6⟩), a6⟩ (Or.inl tz27) hm6
                  · refine s_iconst C dX10_meets_300 (by decide) (fun z28 tz28 => ?_)
                    refine s_goto (tgt := 305) C dX10_meets_301 (by decide) ?_
                    refine s_zast C y111 (by omega) (by omega) dX10_meets_305 ?_
                    refine s_iconst C dX10_meets_306 (by decide) (fun z29 tz29 => ?_)
                    refine s_istore C dX10_meets_307 (by decide) (Nat.le_of_ble_eq_true rfl) rfl ?_
                    show WP E ad 309 [some (.ref (ad 71)), some (.int c), some (.int i), some (.int d), some (.int z29), some (.int z), some (.int (τ.1 85 z.toNatClampNeg)), some (.int r19)] [] (sV τ20 111 d.toNatClampNeg z28)
                    refine s_aload_n C dX10_meets_309 rfl ?_
                    refine s_get (k := 53) (x := (τ20.1 71 53)) C y71 fw_X10_286 rfl rfl dX10_meets_310 ?_
                    refine s_istore C dX10_meets_313 (by decide) (Nat.le_of_ble_eq_true rfl) rfl ?_
                    show WP E ad 315 [some (.ref (ad 71)), some (.int c), some (.int i), some (.int d), some (.int z29), some (.int (τ20.1 71 53)), some (.int (τ.1 85 z.toNatClampNeg)), some (.int r19)] [] (sV τ20 111 d.toNatClampNeg z28)
                    refine s_goto (tgt := 40) C dX10_meets_315 (by decide) ?_
                    refine wp_le (lv' := [some (.ref (ad 71)), some (.int c), some (.int i), some (.int d), some (.int z29), some (.int (τ20.1 71 53)), none, none]) ⟨rfl, ⟨rfl, ⟨rfl, ⟨rfl, ⟨rfl, ⟨rfl, trivial⟩⟩⟩⟩⟩⟩ ?_
                    have hm6 : ((B + n : Int) - Int32.toInt (τ20.1 71 53)).toNat < m := by clear n6; omega
                    exact ih (sV τ20 111 d.toNatClampNeg z28) d z29 (τ20.1 71 53) (Fr.sV (Fr.tr (Fr.tr Fr.rf (Fr.mo kF (by decide) (by decide))) (Fr.mo h21.1 (by decide) (by decide))) (Or.inl (by decide))) f47 ⟨f6, 2, j6, o, b6, l6, hd, h5, Or.inr (Or.inr ⟨rfl, n6⟩), a6⟩ (Or.inl tz29) hm6
              · skip
                obtain ⟨f4, h4⟩ := ac_conn hac (by omega) hs3 (Or.inl (by show Int32.toInt (σ.1 85 (B + q)) = 38; omega))
                have hqn2 : q < n := by omega
                clear hs hs3 q10 q12 q14 q16 q18
                refine s_iinc C dX10_meets_264 rfl (by decide) rfl (by decide) (by omega) (fun z30 tz30 => ?_)
                show WP E ad 267 [some (.ref (ad 71)), some (.int c), some (.int i), some (.int d), some (.int y), some (.int z30), some (.int (τ.1 85 z.toNatClampNeg)), none] [] τ
                refine s_goto (tgt := 315) C dX10_meets_267 (by decide) ?_
                refine s_goto (tgt := 40) C dX10_meets_315 (by decide) ?_
                refine wp_le (lv' := [some (.ref (ad 71)), some (.int c), some (.int i), some (.int d), some (.int y), some (.int z30), none, none]) ⟨rfl, ⟨rfl, ⟨rfl, ⟨rfl, ⟨rfl, ⟨rfl, trivial⟩⟩⟩⟩⟩⟩ ?_
                exact ih τ d y z30 (Fr.tr Fr.rf (Fr.mo kF (by decide) (by decide))) k47 ⟨f4, 0, q + 1, te o, by omega, by omega, (by rw [ct_te]; exact hd), (by have := te_len o; omega), Or.inl rfl, h4⟩ (by omega) (by omega)
            · skip
              obtain ⟨f4, h4⟩ := ac_conn hac (by omega) hs3 (Or.inr (by show Int32.toInt (σ.1 85 (B + q)) = 124; omega))
              have hqn2 : q < n := by omega
              clear hs hs3 q10 q12 q14 q16
              refine s_aload_n C dX10_meets_215 rfl ?_
              refine s_getr (k := 50) (j := 110) C y71 fw_X10_131 rfl dX10_meets_216 ?_
              refine s_iload_n C dX10_meets_219 rfl ?_
              refine s_aload_n C dX10_meets_220 rfl ?_
              refine s_getr (k := 50) (j := 110) C y71 fw_X10_131 rfl dX10_meets_221 ?_
              refine s_iload_n C dX10_meets_224 rfl ?_
              refine s_zald (r := (τ.1 110 d.toNatClampNeg)) C y110 (by omega) rfl dX10_meets_225 ?_
              refine s_if_ne (tgt := 238) C dX10_meets_226 (by decide) (fun q31 => ?_) (fun q31 => ?_)
              · refine s_iconst C dX10_meets_238 (by decide) (fun z32 tz32 => ?_)
                refine s_goto (tgt := 243) C dX10_meets_239 (by decide) ?_
                refine s_zast C y110 (by omega) (by omega) dX10_meets_243 ?_
                refine s_aload_n C dX10_meets_244 rfl ?_
                refine s_getr (k := 51) (j := 111) C y71 fw_X10_135 rfl dX10_meets_245 ?_
                refine s_iload_n C dX10_meets_248 rfl ?_
                refine s_iconst C dX10_meets_249 (by decide) (fun z33 tz33 => ?_)
                refine s_zast C y111 (by omega) (by omega) dX10_meets_250 ?_
                refine s_iinc C dX10_meets_251 rfl (by decide) rfl (by decide) (by omega) (fun z34 tz34 => ?_)
                show WP E ad 254 [some (.ref (ad 71)), some (.int c), some (.int i), some (.int d), some (.int y), some (.int z34), some (.int (τ.1 85 z.toNatClampNeg)), none] [] (sV (sV τ 110 d.toNatClampNeg z32) 111 d.toNatClampNeg z33)
                refine s_goto (tgt := 315) C dX10_meets_254 (by decide) ?_
                refine s_goto (tgt := 40) C dX10_meets_315 (by decide) ?_
                refine wp_le (lv' := [some (.ref (ad 71)), some (.int c), some (.int i), some (.int d), some (.int y), some (.int z34), none, none]) ⟨rfl, ⟨rfl, ⟨rfl, ⟨rfl, ⟨rfl, ⟨rfl, trivial⟩⟩⟩⟩⟩⟩ ?_
                exact ih (sV (sV τ 110 d.toNatClampNeg z32) 111 d.toNatClampNeg z33) d y z34 (Fr.sV (Fr.sV (Fr.tr Fr.rf (Fr.mo kF (by decide) (by decide))) (Or.inl (by decide))) (Or.inl (by decide))) k47 ⟨f4, 0, q + 1, te o, by omega, by omega, (by rw [ct_te]; exact hd), (by have := te_len o; omega), Or.inl rfl, h4⟩ (by omega) (by omega)
              · refine s_aload_n C dX10_meets_229 rfl ?_
                refine s_getr (k := 51) (j := 111) C y71 fw_X10_135 rfl dX10_meets_230 ?_
                refine s_iload_n C dX10_meets_233 rfl ?_
                refine s_zald (r := (τ.1 111 d.toNatClampNeg)) C y111 (by omega) rfl dX10_meets_234 ?_
                refine s_if_eq (tgt := 242) C dX10_meets_235 (by decide) (fun q35 => ?_) (fun q35 => ?_)
                · refine s_iconst C dX10_meets_242 (by decide) (fun z36 tz36 => ?_)
                  refine s_zast C y110 (by omega) (by omega) dX10_meets_243 ?_
                  refine s_aload_n C dX10_meets_244 rfl ?_
                  refine s_getr (k := 51) (j := 111) C y71 fw_X10_135 rfl dX10_meets_245 ?_
                  refine s_iload_n C dX10_meets_248 rfl ?_
                  refine s_iconst C dX10_meets_249 (by decide) (fun z37 tz37 => ?_)
                  refine s_zast C y111 (by omega) (by omega) dX10_meets_250 ?_
                  refine s_iinc C dX10_meets_251 rfl (by decide) rfl (by decide) (by omega) (fun z38 tz38 => ?_)
                  show WP E ad 254 [some (.ref (ad 71)), some (.int c), some (.int i), some (.int d), some (.int y), some (.int z38), some (.int (τ.1 85 z.toNatClampNeg)), none] [] (sV (sV τ 110 d.toNatClampNeg z36) 111 d.toNatClampNeg z37)
                  refine s_goto (tgt := 315) C dX10_meets_254 (by decide) ?_
                  refine s_goto (tgt := 40) C dX10_meets_315 (by decide) ?_
                  refine wp_le (lv' := [some (.ref (ad 71)), some (.int c), some (.int i), some (.int d), some (.int y), some (.int z38), none, none]) ⟨rfl, ⟨rfl, ⟨rfl, ⟨rfl, ⟨rfl, ⟨rfl, trivial⟩⟩⟩⟩⟩⟩ ?_
                  exact ih (sV (sV τ 110 d.toNatClampNeg z36) 111 d.toNatClampNeg z37) d y z38 (Fr.sV (Fr.sV (Fr.tr Fr.rf (Fr.mo kF (by decide) (by decide))) (Or.inl (by decide))) (Or.inl (by decide))) k47 ⟨f4, 0, q + 1, te o, by omega, by omega, (by rw [ct_te]; exact hd), (by have := te_len o; omega), Or.inl rfl, h4⟩ (by omega) (by omega)
                · refine s_iconst C dX10_meets_238 (by decide) (fun z39 tz39 => ?_)
                  refine s_goto (tgt := 243) C dX10_meets_239 (by decide) ?_
                  refine s_zast C y110 (by omega) (by omega) dX10_meets_243 ?_
                  refine s_aload_n C dX10_meets_244 rfl ?_
                  refine s_getr (k := 51) (j := 111) C y71 fw_X10_135 rfl dX10_meets_245 ?_
                  refine s_iload_n C dX10_meets_248 rfl ?_
                  refine s_iconst C dX10_meets_249 (by decide) (fun z40 tz40 => ?_)
                  refine s_zast C y111 (by omega) (by omega) dX10_meets_250 ?_
                  refine s_iinc C dX10_meets_251 rfl (by decide) rfl (by decide) (by omega) (fun z41 tz41 => ?_)
                  show WP E ad 254 [some (.ref (ad 71)), some (.int c), some (.int i), some (.int d), some (.int y), some (.int z41), some (.int (τ.1 85 z.toNatClampNeg)), none] [] (sV (sV τ 110 d.toNatClampNeg z39) 111 d.toNatClampNeg z40)
                  refine s_goto (tgt := 315) C dX10_meets_254 (by decide) ?_
                  refine s_goto (tgt := 40) C dX10_meets_315 (by decide) ?_
                  refine wp_le (lv' := [some (.ref (ad 71)), some (.int c), some (.int i), some (.int d), some (.int y), some (.int z41), none, none]) ⟨rfl, ⟨rfl, ⟨rfl, ⟨rfl, ⟨rfl, ⟨rfl, trivial⟩⟩⟩⟩⟩⟩ ?_
                  exact ih (sV (sV τ 110 d.toNatClampNeg z39) 111 d.toNatClampNeg z40) d y z41 (Fr.sV (Fr.sV (Fr.tr Fr.rf (Fr.mo kF (by decide) (by decide))) (Or.inl (by decide))) (Or.inl (by decide))) k47 ⟨f4, 0, q + 1, te o, by omega, by omega, (by rw [ct_te]; exact hd), (by have := te_len o; omega), Or.inl rfl, h4⟩ (by omega) (by omega)
          · skip
            obtain ⟨hto, f3, hac3⟩ := ac_close hac (by omega) hs3 (by show Int32.toInt (σ.1 85 (B + q)) = 41; omega)
            have hcc := ct_close hto
            have hqn2 : q < n := by omega
            clear hs hs3 q10 q12 q14
            refine s_aload_n C dX10_meets_131 rfl ?_
            refine s_getr (k := 50) (j := 110) C y71 fw_X10_131 rfl dX10_meets_132 ?_
            refine s_iload_n C dX10_meets_135 rfl ?_
            refine s_zald (r := (τ.1 110 d.toNatClampNeg)) C y110 (by omega) rfl dX10_meets_136 ?_
            refine s_if_ne (tgt := 149) C dX10_meets_137 (by decide) (fun q42 => ?_) (fun q42 => ?_)
            · refine s_iconst C dX10_meets_149 (by decide) (fun z43 tz43 => ?_)
              refine s_goto (tgt := 154) C dX10_meets_150 (by decide) ?_
              refine s_istore C dX10_meets_154 (by decide) (Nat.le_of_ble_eq_true rfl) rfl ?_
              show WP E ad 156 [some (.ref (ad 71)), some (.int c), some (.int i), some (.int d), some (.int y), some (.int z), some (.int (τ.1 85 z.toNatClampNeg)), some (.int z43)] [] τ
              refine s_aload_n C dX10_meets_156 rfl ?_
              refine s_getr (k := 52) (j := 112) C y71 fw_X10_138 rfl dX10_meets_157 ?_
              refine s_iload_n C dX10_meets_160 rfl ?_
              refine s_zald (r := (τ.1 112 d.toNatClampNeg)) C y112 (by omega) rfl dX10_meets_161 ?_
              refine s_iload C dX10_meets_162 rfl ?_
              refine s_icmp_eq (tgt := 171) C dX10_meets_164 (by decide) (fun q44 => ?_) (fun q44 => ?_)
              · refine s_iconst C dX10_meets_171 (by decide) (fun z45 tz45 => ?_)
                refine s_istore C dX10_meets_172 (by decide) (Nat.le_of_ble_eq_true rfl) rfl ?_
                show WP E ad 174 [some (.ref (ad 71)), some (.int c), some (.int i), some (.int d), some (.int y), some (.int z), some (.int (τ.1 85 z.toNatClampNeg)), some (.int z45)] [] τ
                refine s_iinc C dX10_meets_174 rfl (by decide) rfl (by decide) (by omega) (fun z46 tz46 => ?_)
                show WP E ad 177 [some (.ref (ad 71)), some (.int c), some (.int i), some (.int z46), some (.int y), some (.int z), some (.int (τ.1 85 z.toNatClampNeg)), some (.int z45)] [] τ
                refine s_aload_n C dX10_meets_177 rfl ?_
                refine s_getr (k := 51) (j := 111) C y71 fw_X10_135 rfl dX10_meets_178 ?_
                refine s_iload_n C dX10_meets_181 rfl ?_
                refine s_aload_n C dX10_meets_182 rfl ?_
                refine s_getr (k := 51) (j := 111) C y71 fw_X10_135 rfl dX10_meets_183 ?_
                refine s_iload_n C dX10_meets_186 rfl ?_
                refine s_zald (r := (τ.1 111 z46.toNatClampNeg)) C y111 (by omega) rfl dX10_meets_187 ?_
                refine s_if_eq (tgt := 200) C dX10_meets_188 (by decide) (fun q47 => ?_) (fun q47 => ?_)
                · refine s_iconst C dX10_meets_200 (by decide) (fun z48 tz48 => ?_)
                  refine s_zast C y111 (by omega) (by omega) dX10_meets_201 ?_
                  refine s_iinc C dX10_meets_202 rfl (by decide) rfl (by decide) (by omega) (fun z49 tz49 => ?_)
                  show WP E ad 205 [some (.ref (ad 71)), some (.int c), some (.int i), some (.int z46), some (.int y), some (.int z49), some (.int (τ.1 85 z.toNatClampNeg)), some (.int z45)] [] (sV τ 111 z46.toNatClampNeg z48)
                  refine s_goto (tgt := 315) C dX10_meets_205 (by decide) ?_
                  refine s_goto (tgt := 40) C dX10_meets_315 (by decide) ?_
                  refine wp_le (lv' := [some (.ref (ad 71)), some (.int c), some (.int i), some (.int z46), some (.int y), some (.int z49), none, none]) ⟨rfl, ⟨rfl, ⟨rfl, ⟨rfl, ⟨rfl, ⟨rfl, trivial⟩⟩⟩⟩⟩⟩ ?_
                  exact ih (sV τ 111 z46.toNatClampNeg z48) z46 y z49 (Fr.sV (Fr.tr Fr.rf (Fr.mo kF (by decide) (by decide))) (Or.inl (by decide))) k47 ⟨f3, 3, q + 1, te (te o).tail, by omega, by omega, by omega, (by have := ln_close o; omega), Or.inr (Or.inl rfl), hac3⟩ (by omega) (by omega)
                · refine s_iload C dX10_meets_191 rfl ?_
                  refine s_if_eq (tgt := 200) C dX10_meets_193 (by decide) (fun q50 => ?_) (fun q50 => ?_)
                  · refine s_iconst C dX10_meets_200 (by decide) (fun z51 tz51 => ?_)
                    refine s_zast C y111 (by omega) (by omega) dX10_meets_201 ?_
                    refine s_iinc C dX10_meets_202 rfl (by decide) rfl (by decide) (by omega) (fun z52 tz52 => ?_)
                    show WP E ad 205 [some (.ref (ad 71)), some (.int c), some (.int i), some (.int z46), some (.int y), some (.int z52), some (.int (τ.1 85 z.toNatClampNeg)), some (.int z45)] [] (sV τ 111 z46.toNatClampNeg z51)
                    refine s_goto (tgt := 315) C dX10_meets_205 (by decide) ?_
                    refine s_goto (tgt := 40) C dX10_meets_315 (by decide) ?_
                    refine wp_le (lv' := [some (.ref (ad 71)), some (.int c), some (.int i), some (.int z46), some (.int y), some (.int z52), none, none]) ⟨rfl, ⟨rfl, ⟨rfl, ⟨rfl, ⟨rfl, ⟨rfl, trivial⟩⟩⟩⟩⟩⟩ ?_
                    exact ih (sV τ 111 z46.toNatClampNeg z51) z46 y z52 (Fr.sV (Fr.tr Fr.rf (Fr.mo kF (by decide) (by decide))) (Or.inl (by decide))) k47 ⟨f3, 3, q + 1, te (te o).tail, by omega, by omega, by omega, (by have := ln_close o; omega), Or.inr (Or.inl rfl), hac3⟩ (by omega) (by omega)
                  · refine s_iconst C dX10_meets_196 (by decide) (fun z53 tz53 => ?_)
                    refine s_goto (tgt := 201) C dX10_meets_197 (by decide) ?_
                    refine s_zast C y111 (by omega) (by omega) dX10_meets_201 ?_
                    refine s_iinc C dX10_meets_202 rfl (by decide) rfl (by decide) (by omega) (fun z54 tz54 => ?_)
                    show WP E ad 205 [some (.ref (ad 71)), some (.int c), some (.int i), some (.int z46), some (.int y), some (.int z54), some (.int (τ.1 85 z.toNatClampNeg)), some (.int z45)] [] (sV τ 111 z46.toNatClampNeg z53)
                    refine s_goto (tgt := 315) C dX10_meets_205 (by decide) ?_
                    refine s_goto (tgt := 40) C dX10_meets_315 (by decide) ?_
                    refine wp_le (lv' := [some (.ref (ad 71)), some (.int c), some (.int i), some (.int z46), some (.int y), some (.int z54), none, none]) ⟨rfl, ⟨rfl, ⟨rfl, ⟨rfl, ⟨rfl, ⟨rfl, trivial⟩⟩⟩⟩⟩⟩ ?_
                    exact ih (sV τ 111 z46.toNatClampNeg z53) z46 y z54 (Fr.sV (Fr.tr Fr.rf (Fr.mo kF (by decide) (by decide))) (Or.inl (by decide))) k47 ⟨f3, 3, q + 1, te (te o).tail, by omega, by omega, by omega, (by have := ln_close o; omega), Or.inr (Or.inl rfl), hac3⟩ (by omega) (by omega)
              · refine s_iconst C dX10_meets_167 (by decide) (fun z55 tz55 => ?_)
                refine s_goto (tgt := 172) C dX10_meets_168 (by decide) ?_
                refine s_istore C dX10_meets_172 (by decide) (Nat.le_of_ble_eq_true rfl) rfl ?_
                show WP E ad 174 [some (.ref (ad 71)), some (.int c), some (.int i), some (.int d), some (.int y), some (.int z), some (.int (τ.1 85 z.toNatClampNeg)), some (.int z55)] [] τ
                refine s_iinc C dX10_meets_174 rfl (by decide) rfl (by decide) (by omega) (fun z56 tz56 => ?_)
                show WP E ad 177 [some (.ref (ad 71)), some (.int c), some (.int i), some (.int z56), some (.int y), some (.int z), some (.int (τ.1 85 z.toNatClampNeg)), some (.int z55)] [] τ
                refine s_aload_n C dX10_meets_177 rfl ?_
                refine s_getr (k := 51) (j := 111) C y71 fw_X10_135 rfl dX10_meets_178 ?_
                refine s_iload_n C dX10_meets_181 rfl ?_
                refine s_aload_n C dX10_meets_182 rfl ?_
                refine s_getr (k := 51) (j := 111) C y71 fw_X10_135 rfl dX10_meets_183 ?_
                refine s_iload_n C dX10_meets_186 rfl ?_
                refine s_zald (r := (τ.1 111 z56.toNatClampNeg)) C y111 (by omega) rfl dX10_meets_187 ?_
                refine s_if_eq (tgt := 200) C dX10_meets_188 (by decide) (fun q57 => ?_) (fun q57 => ?_)
                · refine s_iconst C dX10_meets_200 (by decide) (fun z58 tz58 => ?_)
                  refine s_zast C y111 (by omega) (by omega) dX10_meets_201 ?_
                  refine s_iinc C dX10_meets_202 rfl (by decide) rfl (by decide) (by omega) (fun z59 tz59 => ?_)
                  show WP E ad 205 [some (.ref (ad 71)), some (.int c), some (.int i), some (.int z56), some (.int y), some (.int z59), some (.int (τ.1 85 z.toNatClampNeg)), some (.int z55)] [] (sV τ 111 z56.toNatClampNeg z58)
                  refine s_goto (tgt := 315) C dX10_meets_205 (by decide) ?_
                  refine s_goto (tgt := 40) C dX10_meets_315 (by decide) ?_
                  refine wp_le (lv' := [some (.ref (ad 71)), some (.int c), some (.int i), some (.int z56), some (.int y), some (.int z59), none, none]) ⟨rfl, ⟨rfl, ⟨rfl, ⟨rfl, ⟨rfl, ⟨rfl, trivial⟩⟩⟩⟩⟩⟩ ?_
                  exact ih (sV τ 111 z56.toNatClampNeg z58) z56 y z59 (Fr.sV (Fr.tr Fr.rf (Fr.mo kF (by decide) (by decide))) (Or.inl (by decide))) k47 ⟨f3, 3, q + 1, te (te o).tail, by omega, by omega, by omega, (by have := ln_close o; omega), Or.inr (Or.inl rfl), hac3⟩ (by omega) (by omega)
                · refine s_iload C dX10_meets_191 rfl ?_
                  refine s_if_eq (tgt := 200) C dX10_meets_193 (by decide) (fun q60 => ?_) (fun q60 => ?_)
                  · refine s_iconst C dX10_meets_200 (by decide) (fun z61 tz61 => ?_)
                    refine s_zast C y111 (by omega) (by omega) dX10_meets_201 ?_
                    refine s_iinc C dX10_meets_202 rfl (by decide) rfl (by decide) (by omega) (fun z62 tz62 => ?_)
                    show WP E ad 205 [some (.ref (ad 71)), some (.int c), some (.int i), some (.int z56), some (.int y), some (.int z62), some (.int (τ.1 85 z.toNatClampNeg)), some (.int z55)] [] (sV τ 111 z56.toNatClampNeg z61)
                    refine s_goto (tgt := 315) C dX10_meets_205 (by decide) ?_
                    refine s_goto (tgt := 40) C dX10_meets_315 (by decide) ?_
                    refine wp_le (lv' := [some (.ref (ad 71)), some (.int c), some (.int i), some (.int z56), some (.int y), some (.int z62), none, none]) ⟨rfl, ⟨rfl, ⟨rfl, ⟨rfl, ⟨rfl, ⟨rfl, trivial⟩⟩⟩⟩⟩⟩ ?_
                    exact ih (sV τ 111 z56.toNatClampNeg z61) z56 y z62 (Fr.sV (Fr.tr Fr.rf (Fr.mo kF (by decide) (by decide))) (Or.inl (by decide))) k47 ⟨f3, 3, q + 1, te (te o).tail, by omega, by omega, by omega, (by have := ln_close o; omega), Or.inr (Or.inl rfl), hac3⟩ (by omega) (by omega)
                  · refine s_iconst C dX10_meets_196 (by decide) (fun z63 tz63 => ?_)
                    refine s_goto (tgt := 201) C dX10_meets_197 (by decide) ?_
                    refine s_zast C y111 (by omega) (by omega) dX10_meets_201 ?_
                    refine s_iinc C dX10_meets_202 rfl (by decide) rfl (by decide) (by omega) (fun z64 tz64 => ?_)
                    show WP E ad 205 [some (.ref (ad 71)), some (.int c), some (.int i), some (.int z56), some (.int y), some (.int z64), some (.int (τ.1 85 z.toNatClampNeg)), some (.int z55)] [] (sV τ 111 z56.toNatClampNeg z63)
                    refine s_goto (tgt := 315) C dX10_meets_205 (by decide) ?_
                    refine s_goto (tgt := 40) C dX10_meets_315 (by decide) ?_
                    refine wp_le (lv' := [some (.ref (ad 71)), some (.int c), some (.int i), some (.int z56), some (.int y), some (.int z64), none, none]) ⟨rfl, ⟨rfl, ⟨rfl, ⟨rfl, ⟨rfl, ⟨rfl, trivial⟩⟩⟩⟩⟩⟩ ?_
                    exact ih (sV τ 111 z56.toNatClampNeg z63) z56 y z64 (Fr.sV (Fr.tr Fr.rf (Fr.mo kF (by decide) (by decide))) (Or.inl (by decide))) k47 ⟨f3, 3, q + 1, te (te o).tail, by omega, by omega, by omega, (by have := ln_close o; omega), Or.inr (Or.inl rfl), hac3⟩ (by omega) (by omega)
            · refine s_aload_n C dX10_meets_140 rfl ?_
              refine s_getr (k := 51) (j := 111) C y71 fw_X10_135 rfl dX10_meets_141 ?_
              refine s_iload_n C dX10_meets_144 rfl ?_
              refine s_zald (r := (τ.1 111 d.toNatClampNeg)) C y111 (by omega) rfl dX10_meets_145 ?_
              refine s_if_eq (tgt := 153) C dX10_meets_146 (by decide) (fun q65 => ?_) (fun q65 => ?_)
              · refine s_iconst C dX10_meets_153 (by decide) (fun z66 tz66 => ?_)
                refine s_istore C dX10_meets_154 (by decide) (Nat.le_of_ble_eq_true rfl) rfl ?_
                show WP E ad 156 [some (.ref (ad 71)), some (.int c), some (.int i), some (.int d), some (.int y), some (.int z), some (.int (τ.1 85 z.toNatClampNeg)), some (.int z66)] [] τ
                refine s_aload_n C dX10_meets_156 rfl ?_
                refine s_getr (k := 52) (j := 112) C y71 fw_X10_138 rfl dX10_meets_157 ?_
                refine s_iload_n C dX10_meets_160 rfl ?_
                refine s_zald (r := (τ.1 112 d.toNatClampNeg)) C y112 (by omega) rfl dX10_meets_161 ?_
                refine s_iload C dX10_meets_162 rfl ?_
                refine s_icmp_eq (tgt := 171) C dX10_meets_164 (by decide) (fun q67 => ?_) (fun q67 => ?_)
                · refine s_iconst C dX10_meets_171 (by decide) (fun z68 tz68 => ?_)
                  refine s_istore C dX10_meets_172 (by decide) (Nat.le_of_ble_eq_true rfl) rfl ?_
                  show WP E ad 174 [some (.ref (ad 71)), some (.int c), some (.int i), some (.int d), some (.int y), some (.int z), some (.int (τ.1 85 z.toNatClampNeg)), some (.int z68)] [] τ
                  refine s_iinc C dX10_meets_174 rfl (by decide) rfl (by decide) (by omega) (fun z69 tz69 => ?_)
                  show WP E ad 177 [some (.ref (ad 71)), some (.int c), some (.int i), some (.int z69), some (.int y), some (.int z), some (.int (τ.1 85 z.toNatClampNeg)), some (.int z68)] [] τ
                  refine s_aload_n C dX10_meets_177 rfl ?_
                  refine s_getr (k := 51) (j := 111) C y71 fw_X10_135 rfl dX10_meets_178 ?_
                  refine s_iload_n C dX10_meets_181 rfl ?_
                  refine s_aload_n C dX10_meets_182 rfl ?_
                  refine s_getr (k := 51) (j := 111) C y71 fw_X10_135 rfl dX10_meets_183 ?_
                  refine s_iload_n C dX10_meets_186 rfl ?_
                  refine s_zald (r := (τ.1 111 z69.toNatClampNeg)) C y111 (by omega) rfl dX10_meets_187 ?_
                  refine s_if_eq (tgt := 200) C dX10_meets_188 (by decide) (fun q70 => ?_) (fun q70 => ?_)
                  · refine s_iconst C dX10_meets_200 (by decide) (fun z71 tz71 => ?_)
                    refine s_zast C y111 (by omega) (by omega) dX10_meets_201 ?_
                    refine s_iinc C dX10_meets_202 rfl (by decide) rfl (by decide) (by omega) (fun z72 tz72 => ?_)
                    show WP E ad 205 [some (.ref (ad 71)), some (.int c), some (.int i), some (.int z69), some (.int y), some (.int z72), some (.int (τ.1 85 z.toNatClampNeg)), some (.int z68)] [] (sV τ 111 z69.toNatClampNeg z71)
                    refine s_goto (tgt := 315) C dX10_meets_205 (by decide) ?_
                    refine s_goto (tgt := 40) C dX10_meets_315 (by decide) ?_
                    refine wp_le (lv' := [some (.ref (ad 71)), some (.int c), some (.int i), some (.int z69), some (.int y), some (.int z72), none, none]) ⟨rfl, ⟨rfl, ⟨rfl, ⟨rfl, ⟨rfl, ⟨rfl, trivial⟩⟩⟩⟩⟩⟩ ?_
                    exact ih (sV τ 111 z69.toNatClampNeg z71) z69 y z72 (Fr.sV (Fr.tr Fr.rf (Fr.mo kF (by decide) (by decide))) (Or.inl (by decide))) k47 ⟨f3, 3, q + 1, te (te o).tail, by omega, by omega, by omega, (by have := ln_close o; omega), Or.inr (Or.inl rfl), hac3⟩ (by omega) (by omega)
                  · refine s_iload C dX10_meets_191 rfl ?_
                    refine s_if_eq (tgt := 200) C dX10_meets_193 (by decide) (fun q73 => ?_) (fun q73 => ?_)
                    · refine s_iconst C dX10_meets_200 (by decide) (fun z74 tz74 => ?_)
                      refine s_zast C y111 (by omega) (by omega) dX10_meets_201 ?_
                      refine s_iinc C dX10_meets_202 rfl (by decide) rfl (by decide) (by omega) (fun z75 tz75 => ?_)
                      show WP E ad 205 [some (.ref (ad 71)), some (.int c), some (.int i), some (.int z69), some (.int y), some (.int z75), some (.int (τ.1 85 z.toNatClampNeg)), some (.int z68)] [] (sV τ 111 z69.toNatClampNeg z74)
                      refine s_goto (tgt := 315) C dX10_meets_205 (by decide) ?_
                      refine s_goto (tgt := 40) C dX10_meets_315 (by decide) ?_
                      refine wp_le (lv' := [some (.ref (ad 71)), some (.int c), some (.int i), some (.int z69), some (.int y), some (.int z75), none, none]) ⟨rfl, ⟨rfl, ⟨rfl, ⟨rfl, ⟨rfl, ⟨rfl, trivial⟩⟩⟩⟩⟩⟩ ?_
                      exact ih (sV τ 111 z69.toNatClampNeg z74) z69 y z75 (Fr.sV (Fr.tr Fr.rf (Fr.mo kF (by decide) (by decide))) (Or.inl (by decide))) k47 ⟨f3, 3, q + 1, te (te o).tail, by omega, by omega, by omega, (by have := ln_close o; omega), Or.inr (Or.inl rfl), hac3⟩ (by omega) (by omega)
                    · refine s_iconst C dX10_meets_196 (by decide) (fun z76 tz76 => ?_)
                      refine s_goto (tgt := 201) C dX10_meets_197 (by decide) ?_
                      refine s_zast C y111 (by omega) (by omega) dX10_meets_201 ?_
                      refine s_iinc C dX10_meets_202 rfl (by decide) rfl (by decide) (by omega) (fun z77 tz77 => ?_)
                      show WP E ad 205 [some (.ref (ad 71)), some (.int c), some (.int i), some (.int z69), some (.int y), some (.int z77), some (.int (τ.1 85 z.toNatClampNeg)), some (.int z68)] [] (sV τ 111 z69.toNatClampNeg z76)
                      refine s_goto (tgt := 315) C dX10_meets_205 (by decide) ?_
                      refine s_goto (tgt := 40) C dX10_meets_315 (by decide) ?_
                      refine wp_le (lv' := [some (.ref (ad 71)), some (.int c), some (.int i), some (.int z69), some (.int y), some (.int z77), none, none]) ⟨rfl, ⟨rfl, ⟨rfl, ⟨rfl, ⟨rfl, ⟨rfl, trivial⟩⟩⟩⟩⟩⟩ ?_
                      exact ih (sV τ 111 z69.toNatClampNeg z76) z69 y z77 (Fr.sV (Fr.tr Fr.rf (Fr.mo kF (by decide) (by decide))) (Or.inl (by decide))) k47 ⟨f3, 3, q + 1, te (te o).tail, by omega, by omega, by omega, (by have := ln_close o; omega), Or.inr (Or.inl rfl), hac3⟩ (by omega) (by omega)
                · refine s_iconst C dX10_meets_167 (by decide) (fun z78 tz78 => ?_)
                  refine s_goto (tgt := 172) C dX10_meets_168 (by decide) ?_
                  refine s_istore C dX10_meets_172 (by decide) (Nat.le_of_ble_eq_true rfl) rfl ?_
                  show WP E ad 174 [some (.ref (ad 71)), some (.int c), some (.int i), some (.int d), some (.int y), some (.int z), some (.int (τ.1 85 z.toNatClampNeg)), some (.int z78)] [] τ
                  refine s_iinc C dX10_meets_174 rfl (by decide) rfl (by decide) (by omega) (fun z79 tz79 => ?_)
                  show WP E ad 177 [some (.ref (ad 71)), some (.int c), some (.int i), some (.int z79), some (.int y), some (.int z), some (.int (τ.1 85 z.toNatClampNeg)), some (.int z78)] [] τ
                  refine s_aload_n C dX10_meets_177 rfl ?_
                  refine s_getr (k := 51) (j := 111) C y71 fw_X10_135 rfl dX10_meets_178 ?_
                  refine s_iload_n C dX10_meets_181 rfl ?_
                  refine s_aload_n C dX10_meets_182 rfl ?_
                  refine s_getr (k := 51) (j := 111) C y71 fw_X10_135 rfl dX10_meets_183 ?_
                  refine s_iload_n C dX10_meets_186 rfl ?_
                  refine s_zald (r := (τ.1 111 z79.toNatClampNeg)) C y111 (by omega) rfl dX10_meets_187 ?_
                  refine s_if_eq (tgt := 200) C dX10_meets_188 (by decide) (fun q80 => ?_) (fun q80 => ?_)
                  · refine s_iconst C dX10_meets_200 (by decide) (fun z81 tz81 => ?_)
                    refine s_zast C y111 (by omega) (by omega) dX10_meets_201 ?_
                    refine s_iinc C dX10_meets_202 rfl (by decide) rfl (by decide) (by omega) (fun z82 tz82 => ?_)
                    show WP E ad 205 [some (.ref (ad 71)), some (.int c), some (.int i), some (.int z79), some (.int y), some (.int z82), some (.int (τ.1 85 z.toNatClampNeg)), some (.int z78)] [] (sV τ 111 z79.toNatClampNeg z81)
                    refine s_goto (tgt := 315) C dX10_meets_205 (by decide) ?_
                    refine s_goto (tgt := 40) C dX10_meets_315 (by decide) ?_
                    refine wp_le (lv' := [some (.ref (ad 71)), some (.int c), some (.int i), some (.int z79), some (.int y), some (.int z82), none, none]) ⟨rfl, ⟨rfl, ⟨rfl, ⟨rfl, ⟨rfl, ⟨rfl, trivial⟩⟩⟩⟩⟩⟩ ?_
                    exact ih (sV τ 111 z79.toNatClampNeg z81) z79 y z82 (Fr.sV (Fr.tr Fr.rf (Fr.mo kF (by decide) (by decide))) (Or.inl (by decide))) k47 ⟨f3, 3, q + 1, te (te o).tail, by omega, by omega, by omega, (by have := ln_close o; omega), Or.inr (Or.inl rfl), hac3⟩ (by omega) (by omega)
                  · refine s_iload C dX10_meets_191 rfl ?_
                    refine s_if_eq (tgt := 200) C dX10_meets_193 (by decide) (fun q83 => ?_) (fun q83 => ?_)
                    · refine s_iconst C dX10_meets_200 (by decide) (fun z84 tz84 => ?_)
                      refine s_zast C y111 (by omega) (by omega) dX10_meets_201 ?_
                      refine s_iinc C dX10_meets_202 rfl (by decide) rfl (by decide) (by omega) (fun z85 tz85 => ?_)
                      show WP E ad 205 [some (.ref (ad 71)), some (.int c), some (.int i), some (.int z79), some (.int y), some (.int z85), some (.int (τ.1 85 z.toNatClampNeg)), some (.int z78)] [] (sV τ 111 z79.toNatClampNeg z84)
                      refine s_goto (tgt := 315) C dX10_meets_205 (by decide) ?_
                      refine s_goto (tgt := 40) C dX10_meets_315 (by decide) ?_
                      refine wp_le (lv' := [some (.ref (ad 71)), some (.int c), some (.int i), some (.int z79), some (.int y), some (.int z85), none, none]) ⟨rfl, ⟨rfl, ⟨rfl, ⟨rfl, ⟨rfl, ⟨rfl, trivial⟩⟩⟩⟩⟩⟩ ?_
                      exact ih (sV τ 111 z79.toNatClampNeg z84) z79 y z85 (Fr.sV (Fr.tr Fr.rf (Fr.mo kF (by decide) (by decide))) (Or.inl (by decide))) k47 ⟨f3, 3, q + 1, te (te o).tail, by omega, by omega, by omega, (by have := ln_close o; omega), Or.inr (Or.inl rfl), hac3⟩ (by omega) (by omega)
                    · refine s_iconst C dX10_meets_196 (by decide) (fun z86 tz86 => ?_)
                      refine s_goto (tgt := 201) C dX10_meets_197 (by decide) ?_
                      refine s_zast C y111 (by omega) (by omega) dX10_meets_201 ?_
                      refine s_iinc C dX10_meets_202 rfl (by decide) rfl (by decide) (by omega) (fun z87 tz87 => ?_)
                      show WP E ad 205 [some (.ref (ad 71)), some (.int c), some (.int i), some (.int z79), some (.int y), some (.int z87), some (.int (τ.1 85 z.toNatClampNeg)), some (.int z78)] [] (sV τ 111 z79.toNatClampNeg z86)
                      refine s_goto (tgt := 315) C dX10_meets_205 (by decide) ?_
                      refine s_goto (tgt := 40) C dX10_meets_315 (by decide) ?_
                      refine wp_le (lv' := [some (.ref (ad 71)), some (.int c), some (.int i), some (.int z79), some (.int y), some (.int z87), none, none]) ⟨rfl, ⟨rfl, ⟨rfl, ⟨rfl, ⟨rfl, ⟨rfl, trivial⟩⟩⟩⟩⟩⟩ ?_
                      exact ih (sV τ 111 z79.toNatClampNeg z86) z79 y z87 (Fr.sV (Fr.tr Fr.rf (Fr.mo kF (by decide) (by decide))) (Or.inl (by decide))) k47 ⟨f3, 3, q + 1, te (te o).tail, by omega, by omega, by omega, (by have := ln_close o; omega), Or.inr (Or.inl rfl), hac3⟩ (by omega) (by omega)
              · refine s_iconst C dX10_meets_149 (by decide) (fun z88 tz88 => ?_)
                refine s_goto (tgt := 154) C dX10_meets_150 (by decide) ?_
                refine s_istore C dX10_meets_154 (by decide) (Nat.le_of_ble_eq_true rfl) rfl ?_
                show WP E ad 156 [some (.ref (ad 71)), some (.int c), some (.int i), some (.int d), some (.int y), some (.int z), some (.int (τ.1 85 z.toNatClampNeg)), some (.int z88)] [] τ
                refine s_aload_n C dX10_meets_156 rfl ?_
                refine s_getr (k := 52) (j := 112) C y71 fw_X10_138 rfl dX10_meets_157 ?_
                refine s_iload_n C dX10_meets_160 rfl ?_
                refine s_zald (r := (τ.1 112 d.toNatClampNeg)) C y112 (by omega) rfl dX10_meets_161 ?_
                refine s_iload C dX10_meets_162 rfl ?_
                refine s_icmp_eq (tgt := 171) C dX10_meets_164 (by decide) (fun q89 => ?_) (fun q89 => ?_)
                · refine s_iconst C dX10_meets_171 (by decide) (fun z90 tz90 => ?_)
                  refine s_istore C dX10_meets_172 (by decide) (Nat.le_of_ble_eq_true rfl) rfl ?_
                  show WP E ad 174 [some (.ref (ad 71)), some (.int c), some (.int i), some (.int d), some (.int y), some (.int z), some (.int (τ.1 85 z.toNatClampNeg)), some (.int z90)] [] τ
                  refine s_iinc C dX10_meets_174 rfl (by decide) rfl (by decide) (by omega) (fun z91 tz91 => ?_)
                  show WP E ad 177 [some (.ref (ad 71)), some (.int c), some (.int i), some (.int z91), some (.int y), some (.int z), some (.int (τ.1 85 z.toNatClampNeg)), some (.int z90)] [] τ
                  refine s_aload_n C dX10_meets_177 rfl ?_
                  refine s_getr (k := 51) (j := 111) C y71 fw_X10_135 rfl dX10_meets_178 ?_
                  refine s_iload_n C dX10_meets_181 rfl ?_
                  refine s_aload_n C dX10_meets_182 rfl ?_
                  refine s_getr (k := 51) (j := 111) C y71 fw_X10_135 rfl dX10_meets_183 ?_
                  refine s_iload_n C dX10_meets_186 rfl ?_
                  refine s_zald (r := (τ.1 111 z91.toNatClampNeg)) C y111 (by omega) rfl dX10_meets_187 ?_
                  refine s_if_eq (tgt := 200) C dX10_meets_188 (by decide) (fun q92 => ?_) (fun q92 => ?_)
                  · refine s_iconst C dX10_meets_200 (by decide) (fun z93 tz93 => ?_)
                    refine s_zast C y111 (by omega) (by omega) dX10_meets_201 ?_
                    refine s_iinc C dX10_meets_202 rfl (by decide) rfl (by decide) (by omega) (fun z94 tz94 => ?_)
                    show WP E ad 205 [some (.ref (ad 71)), some (.int c), some (.int i), some (.int z91), some (.int y), some (.int z94), some (.int (τ.1 85 z.toNatClampNeg)), some (.int z90)] [] (sV τ 111 z91.toNatClampNeg z93)
                    refine s_goto (tgt := 315) C dX10_meets_205 (by decide) ?_
                    refine s_goto (tgt := 40) C dX10_meets_315 (by decide) ?_
                    refine wp_le (lv' := [some (.ref (ad 71)), some (.int c), some (.int i), some (.int z91), some (.int y), some (.int z94), none, none]) ⟨rfl, ⟨rfl, ⟨rfl, ⟨rfl, ⟨rfl, ⟨rfl, trivial⟩⟩⟩⟩⟩⟩ ?_
                    exact ih (sV τ 111 z91.toNatClampNeg z93) z91 y z94 (Fr.sV (Fr.tr Fr.rf (Fr.mo kF (by decide) (by decide))) (Or.inl (by decide))) k47 ⟨f3, 3, q + 1, te (te o).tail, by omega, by omega, by omega, (by have := ln_close o; omega), Or.inr (Or.inl rfl), hac3⟩ (by omega) (by omega)
                  · refine s_iload C dX10_meets_191 rfl ?_
                    refine s_if_eq (tgt := 200) C dX10_meets_193 (by decide) (fun q95 => ?_) (fun q95 => ?_)
                    · refine s_iconst C dX10_meets_200 (by decide) (fun z96 tz96 => ?_)
                      refine s_zast C y111 (by omega) (by omega) dX10_meets_201 ?_
                      refine s_iinc C dX10_meets_202 rfl (by decide) rfl (by decide) (by omega) (fun z97 tz97 => ?_)
                      show WP E ad 205 [some (.ref (ad 71)), some (.int c), some (.int i), some (.int z91), some (.int y), some (.int z97), some (.int (τ.1 85 z.toNatClampNeg)), some (.int z90)] [] (sV τ 111 z91.toNatClampNeg z96)
                      refine s_goto (tgt := 315) C dX10_meets_205 (by decide) ?_
                      refine s_goto (tgt := 40) C dX10_meets_315 (by decide) ?_
                      refine wp_le (lv' := [some (.ref (ad 71)), some (.int c), some (.int i), some (.int z91), some (.int y), some (.int z97), none, none]) ⟨rfl, ⟨rfl, ⟨rfl, ⟨rfl, ⟨rfl, ⟨rfl, trivial⟩⟩⟩⟩⟩⟩ ?_
                      exact ih (sV τ 111 z91.toNatClampNeg z96) z91 y z97 (Fr.sV (Fr.tr Fr.rf (Fr.mo kF (by decide) (by decide))) (Or.inl (by decide))) k47 ⟨f3, 3, q + 1, te (te o).tail, by omega, by omega, by omega, (by have := ln_close o; omega), Or.inr (Or.inl rfl), hac3⟩ (by omega) (by omega)
                    · refine s_iconst C dX10_meets_196 (by decide) (fun z98 tz98 => ?_)
                      refine s_goto (tgt := 201) C dX10_meets_197 (by decide) ?_
                      refine s_zast C y111 (by omega) (by omega) dX10_meets_201 ?_
                      refine s_iinc C dX10_meets_202 rfl (by decide) rfl (by decide) (by omega) (fun z99 tz99 => ?_)
                      show WP E ad 205 [some (.ref (ad 71)), some (.int c), some (.int i), some (.int z91), some (.int y), some (.int z99), some (.int (τ.1 85 z.toNatClampNeg)), some (.int z90)] [] (sV τ 111 z91.toNatClampNeg z98)
                      refine s_goto (tgt := 315) C dX10_meets_205 (by decide) ?_
                      refine s_goto (tgt := 40) C dX10_meets_315 (by decide) ?_
                      refine wp_le (lv' := [some (.ref (ad 71)), some (.int c), some (.int i), some (.int z91), some (.int y), some (.int z99), none, none]) ⟨rfl, ⟨rfl, ⟨rfl, ⟨rfl, ⟨rfl, ⟨rfl, trivial⟩⟩⟩⟩⟩⟩ ?_
                      exact ih (sV τ 111 z91.toNatClampNeg z98) z91 y z99 (Fr.sV (Fr.tr Fr.rf (Fr.mo kF (by decide) (by decide))) (Or.inl (by decide))) k47 ⟨f3, 3, q + 1, te (te o).tail, by omega, by omega, by omega, (by have := ln_close o; omega), Or.inr (Or.inl rfl), hac3⟩ (by omega) (by omega)
                · refine s_iconst C dX10_meets_167 (by decide) (fun z100 tz100 => ?_)
                  refine s_goto (tgt := 172) C dX10_meets_168 (by decide) ?_
                  refine s_istore C dX10_meets_172 (by decide) (Nat.le_of_ble_eq_true rfl) rfl ?_
                  show WP E ad 174 [some (.ref (ad 71)), some (.int c), some (.int i), some (.int d), some (.int y), some (.int z), some (.int (τ.1 85 z.toNatClampNeg)), some (.int z100)] [] τ
                  refine s_iinc C dX10_meets_174 rfl (by decide) rfl (by decide) (by omega) (fun z101 tz101 => ?_)
                  show WP E ad 177 [some (.ref (ad 71)), some (.int c), some (.int i), some (.int z101), some (.int y), some (.int z), some (.int (τ.1 85 z.toNatClampNeg)), some (.int z100)] [] τ
                  refine s_aload_n C dX10_meets_177 rfl ?_
                  refine s_getr (k := 51) (j := 111) C y71 fw_X10_135 rfl dX10_meets_178 ?_
                  refine s_iload_n C dX10_meets_181 rfl ?_
                  refine s_aload_n C dX10_meets_182 rfl ?_
                  refine s_getr (k := 51) (j := 111) C y71 fw_X10_135 rfl dX10_meets_183 ?_
                  refine s_iload_n C dX10_meets_186 rfl ?_
                  refine s_zald (r := (τ.1 111 z101.toNatClampNeg)) C y111 (by omega) rfl dX10_meets_187 ?_
                  refine s_if_eq (tgt := 200) C dX10_meets_188 (by decide) (fun q102 => ?_) (fun q102 => ?_)
                  · refine s_iconst C dX10_meets_200 (by decide) (fun z103 tz103 => ?_)
                    refine s_zast C y111 (by omega) (by omega) dX10_meets_201 ?_
                    refine s_iinc C dX10_meets_202 rfl (by decide) rfl (by decide) (by omega) (fun z104 tz104 => ?_)
                    show WP E ad 205 [some (.ref (ad 71)), some (.int c), some (.int i), some (.int z101), some (.int y), some (.int z104), some (.int (τ.1 85 z.toNatClampNeg)), some (.int z100)] [] (sV τ 111 z101.toNatClampNeg z103)
                    refine s_goto (tgt := 315) C dX10_meets_205 (by decide) ?_
                    refine s_goto (tgt := 40) C dX10_meets_315 (by decide) ?_
                    refine wp_le (lv' := [some (.ref (ad 71)), some (.int c), some (.int i), some (.int z101), some (.int y), some (.int z104), none, none]) ⟨rfl, ⟨rfl, ⟨rfl, ⟨rfl, ⟨rfl, ⟨rfl, trivial⟩⟩⟩⟩⟩⟩ ?_
                    exact ih (sV τ 111 z101.toNatClampNeg z103) z101 y z104 (Fr.sV (Fr.tr Fr.rf (Fr.mo kF (by decide) (by decide))) (Or.inl (by decide))) k47 ⟨f3, 3, q + 1, te (te o).tail, by omega, by omega, by omega, (by have := ln_close o; omega), Or.inr (Or.inl rfl), hac3⟩ (by omega) (by omega)
                  · refine s_iload C dX10_meets_191 rfl ?_
                    refine s_if_eq (tgt := 200) C dX10_meets_193 (by decide) (fun q105 => ?_) (fun q105 => ?_)
                    · refine s_iconst C dX10_meets_200 (by decide) (fun z106 tz106 => ?_)
                      refine s_zast C y111 (by omega) (by omega) dX10_meets_201 ?_
                      refine s_iinc C dX10_meets_202 rfl (by decide) rfl (by decide) (by omega) (fun z107 tz107 => ?_)
                      show WP E ad 205 [some (.ref (ad 71)), some (.int c), some (.int i), some (.int z101), some (.int y), some (.int z107), some (.int (τ.1 85 z.toNatClampNeg)), some (.int z100)] [] (sV τ 111 z101.toNatClampNeg z106)
                      refine s_goto (tgt := 315) C dX10_meets_205 (by decide) ?_
                      refine s_goto (tgt := 40) C dX10_meets_315 (by decide) ?_
                      refine wp_le (lv' := [some (.ref (ad 71)), some (.int c), some (.int i), some (.int z101), some (.int y), some (.int z107), none, none]) ⟨rfl, ⟨rfl, ⟨rfl, ⟨rfl, ⟨rfl, ⟨rfl, trivial⟩⟩⟩⟩⟩⟩ ?_
                      exact ih (sV τ 111 z101.toNatClampNeg z106) z101 y z107 (Fr.sV (Fr.tr Fr.rf (Fr.mo kF (by decide) (by decide))) (Or.inl (by decide))) k47 ⟨f3, 3, q + 1, te (te o).tail, by omega, by omega, by omega, (by have := ln_close o; omega), Or.inr (Or.inl rfl), hac3⟩ (by omega) (by omega)
                    · refine s_iconst C dX10_meets_196 (by decide) (fun z108 tz108 => ?_)
                      refine s_goto (tgt := 201) C dX10_meets_197 (by decide) ?_
                      refine s_zast C y111 (by omega) (by omega) dX10_meets_201 ?_
                      refine s_iinc C dX10_meets_202 rfl (by decide) rfl (by decide) (by omega) (fun z109 tz109 => ?_)
                      show WP E ad 205 [some (.ref (ad 71)), some (.int c), some (.int i), some (.int z101), some (.int y), some (.int z109), some (.int (τ.1 85 z.toNatClampNeg)), some (.int z100)] [] (sV τ 111 z101.toNatClampNeg z108)
                      refine s_goto (tgt := 315) C dX10_meets_205 (by decide) ?_
                      refine s_goto (tgt := 40) C dX10_meets_315 (by decide) ?_
                      refine wp_le (lv' := [some (.ref (ad 71)), some (.int c), some (.int i), some (.int z101), some (.int y), some (.int z109), none, none]) ⟨rfl, ⟨rfl, ⟨rfl, ⟨rfl, ⟨rfl, ⟨rfl, trivial⟩⟩⟩⟩⟩⟩ ?_
                      exact ih (sV τ 111 z101.toNatClampNeg z108) z101 y z109 (Fr.sV (Fr.tr Fr.rf (Fr.mo kF (by decide) (by decide))) (Or.inl (by decide))) k47 ⟨f3, 3, q + 1, te (te o).tail, by omega, by omega, by omega, (by have := ln_close o; omega), Or.inr (Or.inl rfl), hac3⟩ (by omega) (by omega)
        · skip
          obtain ⟨hl, f1, h1⟩ := ac_bang hac (by omega) hs3 (Or.inr (by show Int32.toInt (σ.1 85 (B + q)) = 40; omega))
          have hdc : decide (Int32.toInt (σ.1 85 (B + q)) = 40) = true := by simp; omega
          have hqn2 : q < n := by omega
          clear hs hs3 q10 q12
          refine s_iinc C dX10_meets_90 rfl (by decide) rfl (by decide) (by omega) (fun z110 tz110 => ?_)
          show WP E ad 93 [some (.ref (ad 71)), some (.int c), some (.int i), some (.int z110), some (.int y), some (.int z), some (.int (τ.1 85 z.toNatClampNeg)), none] [] τ
          refine s_aload_n C dX10_meets_93 rfl ?_
          refine s_getr (k := 52) (j := 112) C y71 fw_X10_138 rfl dX10_meets_94 ?_
          refine s_iload_n C dX10_meets_97 rfl ?_
          refine s_iload C dX10_meets_98 rfl ?_
          refine s_zast C y112 (by omega) (by omega) dX10_meets_100 ?_
          refine s_aload_n C dX10_meets_101 rfl ?_
          refine s_getr (k := 50) (j := 110) C y71 fw_X10_131 rfl dX10_meets_102 ?_
          refine s_iload_n C dX10_meets_105 rfl ?_
          refine s_iconst C dX10_meets_106 (by decide) (fun z111 tz111 => ?_)
          refine s_zast C y110 (by omega) (by omega) dX10_meets_107 ?_
          refine s_aload_n C dX10_meets_108 rfl ?_
          refine s_getr (k := 51) (j := 111) C y71 fw_X10_135 rfl dX10_meets_109 ?_
          refine s_iload_n C dX10_meets_112 rfl ?_
          refine s_iconst C dX10_meets_113 (by decide) (fun z112 tz112 => ?_)
          refine s_zast C y111 (by omega) (by omega) dX10_meets_114 ?_
          refine s_iconst C dX10_meets_115 (by decide) (fun z113 tz113 => ?_)
          refine s_istore C dX10_meets_116 (by decide) (Nat.le_of_ble_eq_true rfl) rfl ?_
          show WP E ad 118 [some (.ref (ad 71)), some (.int c), some (.int i), some (.int z110), some (.int z113), some (.int z), some (.int (τ.1 85 z.toNatClampNeg)), none] [] (sV (sV (sV τ 112 z110.toNatClampNeg y) 110 z110.toNatClampNeg z111) 111 z110.toNatClampNeg z112)
          refine s_iinc C dX10_meets_118 rfl (by decide) rfl (by decide) (by omega) (fun z114 tz114 => ?_)
          show WP E ad 121 [some (.ref (ad 71)), some (.int c), some (.int i), some (.int z110), some (.int z113), some (.int z114), some (.int (τ.1 85 z.toNatClampNeg)), none] [] (sV (sV (sV τ 112 z110.toNatClampNeg y) 110 z110.toNatClampNeg z111) 111 z110.toNatClampNeg z112)
          refine s_goto (tgt := 315) C dX10_meets_121 (by decide) ?_
          refine s_goto (tgt := 40) C dX10_meets_315 (by decide) ?_
          refine wp_le (lv' := [some (.ref (ad 71)), some (.int c), some (.int i), some (.int z110), some (.int z113), some (.int z114), none, none]) ⟨rfl, ⟨rfl, ⟨rfl, ⟨rfl, ⟨rfl, ⟨rfl, trivial⟩⟩⟩⟩⟩⟩ ?_
          exact ih (sV (sV (sV τ 112 z110.toNatClampNeg y) 110 z110.toNatClampNeg z111) 111 z110.toNatClampNeg z112) z110 z113 z114 (Fr.sV (Fr.sV (Fr.sV (Fr.tr Fr.rf (Fr.mo kF (by decide) (by decide))) (Or.inl (by decide))) (Or.inl (by decide))) (Or.inl (by decide))) k47 ⟨f1, 0, q + 1, decide (Int32.toInt (σ.1 85 (B + q)) = 40) :: o, by omega, by omega, (by rw [hdc, List.count_cons_self]; omega), (by rw [List.length_cons]; omega), Or.inl rfl, h1⟩ (by omega) (by omega)
      · skip
        obtain ⟨hl, f1, h1⟩ := ac_bang hac (by omega) hs3 (Or.inl (by show Int32.toInt (σ.1 85 (B + q)) = 33; omega))
        have hdc : decide (Int32.toInt (σ.1 85 (B + q)) = 40) = false := by simp; omega
        have hqn2 : q < n := by omega
        clear hs hs3 q10
        refine s_iload C dX10_meets_65 rfl ?_
        refine s_if_ne (tgt := 74) C dX10_meets_67 (by decide) (fun q115 => ?_) (fun q115 => ?_)
        · refine s_iconst C dX10_meets_74 (by decide) (fun z116 tz116 => ?_)
          refine s_istore C dX10_meets_75 (by decide) (Nat.le_of_ble_eq_true rfl) rfl ?_
          show WP E ad 77 [some (.ref (ad 71)), some (.int c), some (.int i), some (.int d), some (.int z116), some (.int z), some (.int (τ.1 85 z.toNatClampNeg)), none] [] τ
          refine s_iinc C dX10_meets_77 rfl (by decide) rfl (by decide) (by omega) (fun z117 tz117 => ?_)
          show WP E ad 80 [some (.ref (ad 71)), some (.int c), some (.int i), some (.int d), some (.int z116), some (.int z117), some (.int (τ.1 85 z.toNatClampNeg)), none] [] τ
          refine s_goto (tgt := 315) C dX10_meets_80 (by decide) ?_
          refine s_goto (tgt := 40) C dX10_meets_315 (by decide) ?_
          refine wp_le (lv' := [some (.ref (ad 71)), some (.int c), some (.int i), some (.int d), some (.int z116), some (.int z117), none, none]) ⟨rfl, ⟨rfl, ⟨rfl, ⟨rfl, ⟨rfl, ⟨rfl, trivial⟩⟩⟩⟩⟩⟩ ?_
          exact ih τ d z116 z117 (Fr.tr Fr.rf (Fr.mo kF (by decide) (by decide))) k47 ⟨f1, 0, q + 1, decide (Int32.toInt (σ.1 85 (B + q)) = 40) :: o, by omega, by omega, (by rw [hdc, List.count_cons_of_ne (by decide)]; exact hd), (by rw [List.length_cons]; omega), Or.inl rfl, h1⟩ (by omega) (by omega)
        · refine s_iconst C dX10_meets_70 (by decide) (fun z118 tz118 => ?_)
          refine s_goto (tgt := 75) C dX10_meets_71 (by decide) ?_
          refine s_istore C dX10_meets_75 (by decide) (Nat.le_of_ble_eq_true rfl) rfl ?_
          show WP E ad 77 [some (.ref (ad 71)), some (.int c), some (.int i), some (.int d), some (.int z118), some (.int z), some (.int (τ.1 85 z.toNatClampNeg)), none] [] τ
          refine s_iinc C dX10_meets_77 rfl (by decide) rfl (by decide) (by omega) (fun z119 tz119 => ?_)
          show WP E ad 80 [some (.ref (ad 71)), some (.int c), some (.int i), some (.int d), some (.int z118), some (.int z119), some (.int (τ.1 85 z.toNatClampNeg)), none] [] τ
          refine s_goto (tgt := 315) C dX10_meets_80 (by decide) ?_
          refine s_goto (tgt := 40) C dX10_meets_315 (by decide) ?_
          refine wp_le (lv' := [some (.ref (ad 71)), some (.int c), some (.int i), some (.int d), some (.int z118), some (.int z119), none, none]) ⟨rfl, ⟨rfl, ⟨rfl, ⟨rfl, ⟨rfl, ⟨rfl, trivial⟩⟩⟩⟩⟩⟩ ?_
          exact ih τ d z118 z119 (Fr.tr Fr.rf (Fr.mo kF (by decide) (by decide))) k47 ⟨f1, 0, q + 1, decide (Int32.toInt (σ.1 85 (B + q)) = 40) :: o, by omega, by omega, (by rw [hdc, List.count_cons_of_ne (by decide)]; exact hd), (by rw [List.length_cons]; omega), Or.inl rfl, h1⟩ (by omega) (by omega)
set_option maxHeartbeats 40000000 in
set_option maxRecDepth 100000 in
theorem c_X10_meets (l : Launch) (ad : Nat → Nat) (σ : Sg) (c i : Int32) (hI : IM σ.1) (hc : 0 ≤ c.toInt ∧ c.toInt ≤ 2) (hi : 0 ≤ i.toInt ∧ i.toInt ≤ 1295) (h0 : 0 < (σ.1 84 c.toNatClampNeg).toInt) : Mt l yX10_meets cX10_meets 8 (some .boolean) 5 ad σ [.ref (ad 71), .int c, .int i] (oI (fun r τ => Fr [110, 111, 112] [(71, 47), (71, 53)] σ τ ∧ (r.toInt = 0 ∨ r.toInt = 1))) := by
  have htm := hI.tm c.toNatClampNeg
  have hw := (hI.tx c.toNatClampNeg).2 (by unfold Int32.toNatClampNeg; omega) h0
  refine Mt_intro (by decide +kernel) (by simp [lg_sl, Value.category]) (fun E C X => ?_)
  show WP E ad 0 [some (.ref (ad 71)), some (.int c), some (.int i), none, none, none, none, none] [] σ
  refine s_aload_n C dX10_meets_0 rfl ?_
  refine s_bipush C dX10_meets_1 (by decide) (fun z1 tz1 => ?_)
  refine s_iload_n C dX10_meets_3 rfl ?_
  refine s_imulL C tz1 dX10_meets_4 (by omega) (fun z2 tz2 => ?_)
  refine s_aload_n C dX10_meets_5 rfl ?_
  refine s_getr (k := 15) (j := 84) C y71 fw_X10_52 rfl dX10_meets_6 ?_
  refine s_iload_n C dX10_meets_9 rfl ?_
  refine s_iald (r := (σ.1 84 c.toNatClampNeg)) C y84 (by omega) rfl dX10_meets_10 ?_
  refine s_iadd C dX10_meets_11 (by omega) (fun z3 tz3 => ?_)
  refine s_put (k := 47) C y71 fw_X10_280 fp_9_47 rfl dX10_meets_12 ?_
  refine s_iconst C dX10_meets_15 (by decide) (fun z4 tz4 => ?_)
  refine s_istore_n C dX10_meets_16 (by decide) (Nat.le_of_ble_eq_true rfl) rfl ?_
  show WP E ad 17 [some (.ref (ad 71)), some (.int c), some (.int i), some (.int z4), none, none, none, none] [] (sV σ 71 47 z3)
  refine s_aload_n C dX10_meets_17 rfl ?_
  refine s_getr (k := 50) (j := 110) C y71 fw_X10_131 rfl dX10_meets_18 ?_
  refine s_iconst C dX10_meets_21 (by decide) (fun z5 tz5 => ?_)
  refine s_iconst C dX10_meets_22 (by decide) (fun z6 tz6 => ?_)
  refine s_zast C y110 (by omega) (by omega) dX10_meets_23 ?_
  refine s_aload_n C dX10_meets_24 rfl ?_
  refine s_getr (k := 51) (j := 111) C y71 fw_X10_135 rfl dX10_meets_25 ?_
  refine s_iconst C dX10_meets_28 (by decide) (fun z7 tz7 => ?_)
  refine s_iconst C dX10_meets_29 (by decide) (fun z8 tz8 => ?_)
  refine s_zast C y111 (by omega) (by omega) dX10_meets_30 ?_
  refine s_iconst C dX10_meets_31 (by decide) (fun z9 tz9 => ?_)
  refine s_istore C dX10_meets_32 (by decide) (Nat.le_of_ble_eq_true rfl) rfl ?_
  show WP E ad 34 [some (.ref (ad 71)), some (.int c), some (.int i), some (.int z4), some (.int z9), none, none, none] [] (sV (sV (sV σ 71 47 z3) 110 z5.toNatClampNeg z6) 111 z7.toNatClampNeg z8)
  refine s_bipush C dX10_meets_34 (by decide) (fun z10 tz10 => ?_)
  refine s_iload_n C dX10_meets_36 rfl ?_
  refine s_imulL C tz10 dX10_meets_37 (by omega) (fun z11 tz11 => ?_)
  refine s_istore C dX10_meets_38 (by decide) (Nat.le_of_ble_eq_true rfl) rfl ?_
  show WP E ad 40 [some (.ref (ad 71)), some (.int c), some (.int i), some (.int z4), some (.int z9), some (.int z11), none, none] [] (sV (sV (sV σ 71 47 z3) 110 z5.toNatClampNeg z6) 111 z7.toNatClampNeg z8)
  obtain ⟨f0, hf0⟩ := hw
  exact L_meets l ad E σ hI c i (60 * c.toInt.toNat) (σ.1 84 c.toNatClampNeg).toInt.toNat hc (by omega) (by omega) hi C X 100 (sV (sV (sV σ 71 47 z3) 110 z5.toNatClampNeg z6) 111 z7.toNatClampNeg z8) z4 z9 z11 (Fr.sV (Fr.sV (Fr.sV Fr.rf (Or.inr (by decide))) (Or.inl (by decide))) (Or.inl (by decide))) (by show Int32.toInt z3 = _; omega) ⟨f0, 0, 0, [], by omega, by omega, (by simp; omega), (by simp), Or.inl rfl, hf0⟩ (by omega) (by omega)
