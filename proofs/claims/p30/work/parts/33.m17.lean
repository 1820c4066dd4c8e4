set_option maxRecDepth 100000 in
theorem L_condFault (l : Launch) (ad : Nat → Nat) (E : Ev) (σ : Sg) (htp : 0 ≤ (σ.1 71 17).toInt ∧ (σ.1 71 17).toInt ≤ 60) (hpr : 1 ≤ (σ.1 71 0).toInt ∧ (σ.1 71 0).toInt ≤ 4) (C : Cx E l (rmk 3) 4 cX10_conditionFault RX10) (X : Rx E ad (some .int) (oI (fun r τ => Fr [109] [(71, 49)] σ τ ∧ -1 ≤ r.toInt ∧ r.toInt ≤ 70 ∧ (r.toInt < 0 → WF (σ.1 71 0).toInt (σ.1 86) (σ.1 71 17).toInt.toNat))))  : ∀ (n : Nat) (τ : Sg) (o : List Bool) (y : Int32) (z : Int32), (Fr [109] [(71, 49)] σ τ) → ((τ.1 71 49).toInt = o.length) → (Op (τ.1 109) o) → (o.length ≤ 5) → (0 ≤ y.toInt ∧ y.toInt ≤ 3) → (0 ≤ z.toInt ∧ z.toInt ≤ (σ.1 71 17).toInt) → ((∃ f, ac (σ.1 71 0).toInt (σ.1 86) (σ.1 71 17).toInt.toNat f y.toInt.toNat o z.toInt.toNat) → WF (σ.1 71 0).toInt (σ.1 86) (σ.1 71 17).toInt.toNat) → ((σ.1 71 17).toInt - z.toInt).toNat < n → WP E ad 9 [some (.ref (ad 71)), some (.int y), some (.int z), none] [] τ := by
  intro n
  induction n with
  | zero => intro τ o y z kF hd ho h5 hs hk hac hm9; exact absurd hm9 (Nat.not_lt_zero _)
  | succ n ih =>
    intro τ o y z kF hd ho h5 hs hk hac hm9
    have f17 : (τ.1 71 17).toInt = (σ.1 71 17).toInt := congrArg Int32.toInt (kF.f 71 17 (by decide) (by decide))
    have f0 : (τ.1 71 0).toInt = (σ.1 71 0).toInt := congrArg Int32.toInt (kF.f 71 0 (by decide) (by decide))
    have e86 : τ.1 86 = σ.1 86 := kF.a 86 (by decide) (by decide)
    have ec : Int32.toInt (τ.1 86 z.toNatClampNeg) = Int32.toInt (σ.1 86 z.toInt.toNat) := by rw [e86]; rfl
    refine s_iload_n C dX10_conditionFault_9 rfl ?_
    refine s_aload_n C dX10_conditionFault_10 rfl ?_
    refine s_get (k := 17) (x := (τ.1 71 17)) C y71 fw_X10_247 rfl rfl dX10_conditionFault_11 ?_
    refine s_icmp_ge (tgt := 241) C dX10_conditionFault_14 (by decide) (fun q1 => ?_) (fun q1 => ?_)
    · skip
      refine s_iload_n C dX10_conditionFault_241 rfl ?_
      refine s_iconst C dX10_conditionFault_242 (by decide) (fun z2 tz2 => ?_)
      refine s_icmp_lt (tgt := 253) C dX10_conditionFault_243 (by decide) (fun q3 => ?_) (fun q3 => ?_)
      · refine s_aload_n C dX10_conditionFault_253 rfl ?_
        refine s_get (k := 17) (x := (τ.1 71 17)) C y71 fw_X10_247 rfl rfl dX10_conditionFault_254 ?_
        refine s_goto (tgt := 261) C dX10_conditionFault_257 (by decide) ?_
        exact s_iret C X dX10_conditionFault_261 ⟨(Fr.tr Fr.rf (Fr.mo kF (by decide) (by decide))), by omega, by omega, fun q => by omega⟩
      · refine s_aload_n C dX10_conditionFault_246 rfl ?_
        refine s_callVI (st := []) C (c_X10_isOpen l ad τ o hd ho (by omega)) cv_X10_269 y71 rfl rfl rfl ⟨by decide, by decide⟩ (Nat.le_of_ble_eq_true rfl) dX10_conditionFault_247 ?_
        intro r4 τ5 h6
        obtain ⟨eh6, h6⟩ := h6; replace eh6 := eh6.symm; subst eh6
        have mh6 := h6.2
        refine s_if_eq (tgt := 260) C dX10_conditionFault_250 (by decide) (fun q7 => ?_) (fun q7 => ?_)
        · refine s_iconst C dX10_conditionFault_260 (by decide) (fun z8 tz8 => ?_)
          exact s_iret C X dX10_conditionFault_261 ⟨(Fr.tr Fr.rf (Fr.mo kF (by decide) (by decide))), by omega, by omega, fun q => hac ⟨1, Or.inl ⟨by omega, by omega, fun hm => by have := mh6.mpr hm; omega⟩⟩⟩
        · refine s_aload_n C dX10_conditionFault_253 rfl ?_
          refine s_get (k := 17) (x := (τ.1 71 17)) C y71 fw_X10_247 rfl rfl dX10_conditionFault_254 ?_
          refine s_goto (tgt := 261) C dX10_conditionFault_257 (by decide) ?_
          exact s_iret C X dX10_conditionFault_261 ⟨(Fr.tr Fr.rf (Fr.mo kF (by decide) (by decide))), by omega, by omega, fun q => hac ⟨1, Or.inl ⟨by omega, by omega, fun hm => by have := mh6.mpr hm; omega⟩⟩⟩
    · skip
      refine s_aload_n C dX10_conditionFault_17 rfl ?_
      refine s_getr (k := 18) (j := 86) C y71 fw_X10_58 rfl dX10_conditionFault_18 ?_
      refine s_iload_n C dX10_conditionFault_21 rfl ?_
      refine s_iald (r := (τ.1 86 z.toNatClampNeg)) C y86 (by omega) rfl dX10_conditionFault_22 ?_
      refine s_istore_n C dX10_conditionFault_23 (by decide) (Nat.le_of_ble_eq_true rfl) rfl ?_
      show WP E ad 24 [some (.ref (ad 71)), some (.int y), some (.int z), some (.int (τ.1 86 z.toNatClampNeg))] [] τ
      refine s_iload_n C dX10_conditionFault_24 rfl ?_
      refine s_if_ne (tgt := 76) C dX10_conditionFault_25 (by decide) (fun q9 => ?_) (fun q9 => ?_)
      · refine s_iload_n C dX10_conditionFault_76 rfl ?_
        refine s_if_ne (tgt := 91) C dX10_conditionFault_77 (by decide) (fun q10 => ?_) (fun q10 => ?_)
        · refine s_iload_n C dX10_conditionFault_91 rfl ?_
          refine s_bipush C dX10_conditionFault_92 (by decide) (fun z11 tz11 => ?_)
          refine s_icmp_eq (tgt := 103) C dX10_conditionFault_94 (by decide) (fun q12 => ?_) (fun q12 => ?_)
          · refine s_iload_n C dX10_conditionFault_103 rfl ?_
            refine s_iconst C dX10_conditionFault_104 (by decide) (fun z13 tz13 => ?_)
            refine s_icmp_ge (tgt := 119) C dX10_conditionFault_105 (by decide) (fun q14 => ?_) (fun q14 => ?_)
            · refine s_iload_n C dX10_conditionFault_119 rfl ?_
              refine s_bipush C dX10_conditionFault_120 (by decide) (fun z15 tz15 => ?_)
              refine s_icmp_eq (tgt := 137) C dX10_conditionFault_122 (by decide) (fun q16 => ?_) (fun q16 => ?_)
              · refine s_iload_n C dX10_conditionFault_137 rfl ?_
                refine s_iconst C dX10_conditionFault_138 (by decide) (fun z17 tz17 => ?_)
                refine s_icmp_ne (tgt := 155) C dX10_conditionFault_139 (by decide) (fun q18 => ?_) (fun q18 => ?_)
                · refine s_iload_n C dX10_conditionFault_155 rfl ?_
                  refine s_bipush C dX10_conditionFault_156 (by decide) (fun z19 tz19 => ?_)
                  refine s_icmp_eq (tgt := 167) C dX10_conditionFault_158 (by decide) (fun q20 => ?_) (fun q20 => ?_)
                  · refine s_iload_n C dX10_conditionFault_167 rfl ?_
                    refine s_iconst C dX10_conditionFault_168 (by decide) (fun z21 tz21 => ?_)
                    refine s_icmp_le (tgt := 184) C dX10_conditionFault_169 (by decide) (fun q22 => ?_) (fun q22 => ?_)
                    · refine s_iload_n C dX10_conditionFault_184 rfl ?_
                      refine s_bipush C dX10_conditionFault_185 (by decide) (fun z23 tz23 => ?_)
                      refine s_icmp_ne (tgt := 228) C dX10_conditionFault_187 (by decide) (fun q24 => ?_) (fun q24 => ?_)
                      · refine s_iload_n C dX10_conditionFault_228 rfl ?_
                        exact s_iret C X dX10_conditionFault_229 ⟨(Fr.tr Fr.rf (Fr.mo kF (by decide) (by decide))), by omega, by omega, fun q => by omega⟩
                      · refine s_iload_n C dX10_conditionFault_190 rfl ?_
                        refine s_iconst C dX10_conditionFault_191 (by decide) (fun z25 tz25 => ?_)
                        refine s_icmp_le (tgt := 228) C dX10_conditionFault_192 (by decide) (fun q26 => ?_) (fun q26 => ?_)
                        · refine s_iload_n C dX10_conditionFault_228 rfl ?_
                          exact s_iret C X dX10_conditionFault_229 ⟨(Fr.tr Fr.rf (Fr.mo kF (by decide) (by decide))), by omega, by omega, fun q => by omega⟩
                        · refine s_aload_n C dX10_conditionFault_195 rfl ?_
                          refine s_callVI (st := []) C (c_X10_isOpen l ad τ o hd ho (by omega)) cv_X10_269 y71 rfl rfl rfl ⟨by decide, by decide⟩ (Nat.le_of_ble_eq_true rfl) dX10_conditionFault_196 ?_
                          intro r27 τ28 h29
                          obtain ⟨eh29, h29⟩ := h29; replace eh29 := eh29.symm; subst eh29
                          have mh29 := h29.2
                          refine s_if_eq (tgt := 228) C dX10_conditionFault_199 (by decide) (fun q30 => ?_) (fun q30 => ?_)
                          · refine s_iload_n C dX10_conditionFault_228 rfl ?_
                            exact s_iret C X dX10_conditionFault_229 ⟨(Fr.tr Fr.rf (Fr.mo kF (by decide) (by decide))), by omega, by omega, fun q => by omega⟩
                          · refine s_aload_n C dX10_conditionFault_202 rfl ?_
                            refine s_callVV (st := []) C (c_X10_testEnds l ad τ o hd ho (by omega)) cv_X10_266 y71 rfl rfl rfl ⟨by decide, by decide⟩ (Nat.le_of_ble_eq_true rfl) dX10_conditionFault_203 ?_
                            intro τ32 h33
                            have dτ32 : Int32.toInt (τ32.1 71 49) = (te o).length := h33.2
                            have pτ32 : Op (τ32.1 109) (te o) := by rw [h33.1.a 109 (by decide) (by decide)]; exact Op_te o ho
                            have qτ32 := te_len o
                            obtain ⟨r6, hr6⟩ := te_hd (mh29.mp (by omega))
                            have hl6 : 1 ≤ (te o).length := by rw [hr6]; simp
                            refine s_aload_n C dX10_conditionFault_206 rfl ?_
                            refine s_dup C dX10_conditionFault_207 rfl ?_
                            refine s_get (k := 49) (x := (τ32.1 71 49)) C y71 fw_X10_260 rfl rfl dX10_conditionFault_208 ?_
                            refine s_iconst C dX10_conditionFault_211 (by decide) (fun z34 tz34 => ?_)
                            refine s_isub C dX10_conditionFault_212 (by omega) (fun z35 tz35 => ?_)
                            refine s_put (k := 49) C y71 fw_X10_260 fp_9_49 rfl dX10_conditionFault_213 ?_
                            refine s_aload_n C dX10_conditionFault_216 rfl ?_
                            refine s_callVV (st := []) C (c_X10_testEnds l ad (sV τ32 71 49 z35) (te o).tail (by show Int32.toInt z35 = _; rw [List.length_tail]; omega) (Op_tail _ pτ32) (by rw [List.length_tail]; omega)) cv_X10_266 y71 rfl rfl rfl ⟨by decide, by decide⟩ (Nat.le_of_ble_eq_true rfl) dX10_conditionFault_217 ?_
                            intro τ37 h38
                            have dτ37 : Int32.toInt (τ37.1 71 49) = (te (te o).tail).length := h38.2
                            have pτ37 : Op (τ37.1 109) (te (te o).tail) := by rw [h38.1.a 109 (by decide) (by decide)]; exact Op_te _ (Op_tail _ pτ32)
                            have qτ37 := te_len (te o).tail
                            have qqτ37 : (te o).tail.length = (te o).length - 1 := List.length_tail
                            skip
                            refine s_iconst C dX10_conditionFault_220 (by decide) (fun z39 tz39 => ?_)
                            refine s_istore_n C dX10_conditionFault_221 (by decide) (Nat.le_of_ble_eq_true rfl) rfl ?_
                            show WP E ad 222 [some (.ref (ad 71)), some (.int z39), some (.int z), some (.int (τ.1 86 z.toNatClampNeg))] [] τ37
                            refine s_iinc C dX10_conditionFault_222 rfl (by decide) rfl (by decide) (by omega) (fun z40 tz40 => ?_)
                            show WP E ad 225 [some (.ref (ad 71)), some (.int z39), some (.int z40), some (.int (τ.1 86 z.toNatClampNeg))] [] τ37
                            refine s_goto (tgt := 230) C dX10_conditionFault_225 (by decide) ?_
                            refine s_iload_n C dX10_conditionFault_230 rfl ?_
                            refine s_if_ge (tgt := 238) C dX10_conditionFault_231 (by decide) (fun q41 => ?_) (fun q41 => ?_)
                            · refine s_goto (tgt := 9) C dX10_conditionFault_238 (by decide) ?_
                              refine wp_le (lv' := [some (.ref (ad 71)), some (.int z39), some (.int z40), none]) ⟨rfl, ⟨rfl, ⟨rfl, trivial⟩⟩⟩ ?_
                              have ek1 : z40.toInt.toNat = z.toInt.toNat + 1 := by omega
                              exact ih τ37 (te (te o).tail) z39 z40 (Fr.tr (Fr.sV (Fr.tr (Fr.tr Fr.rf (Fr.mo kF (by decide) (by decide))) (Fr.mo h33.1 (by decide) (by decide))) (Or.inr (by decide))) (Fr.mo h38.1 (by decide) (by decide))) dτ37 pτ37 (by omega) (by omega) (by omega) (fun ⟨f, hf⟩ => hac ⟨f + 1, Or.inr ⟨by omega, Or.inr (Or.inr (Or.inr (Or.inr (Or.inr ⟨by omega, by omega, mh29.mp (by omega), (by rw [ek1, show z39.toInt.toNat = 3 by omega] at hf; exact hf)⟩))))⟩⟩) (by omega)
                            · refine s_iconst C dX10_conditionFault_234 (by decide) (fun z42 tz42 => ?_)
                              refine s_iload_n C dX10_conditionFault_235 rfl ?_
                              refine s_isub C dX10_conditionFault_236 (by omega) (fun z43 tz43 => ?_)
                              exact s_iret C X dX10_conditionFault_237 ⟨(Fr.tr (Fr.sV (Fr.tr (Fr.tr Fr.rf (Fr.mo kF (by decide) (by decide))) (Fr.mo h33.1 (by decide) (by decide))) (Or.inr (by decide))) (Fr.mo h38.1 (by decide) (by decide))), by omega, by omega, fun q => by omega⟩
                    · refine s_aload_n C dX10_conditionFault_172 rfl ?_
                      refine s_callVV (st := []) C (c_X10_testEnds l ad τ o hd ho (by omega)) cv_X10_266 y71 rfl rfl rfl ⟨by decide, by decide⟩ (Nat.le_of_ble_eq_true rfl) dX10_conditionFault_173 ?_
                      intro τ45 h46
                      have dτ45 : Int32.toInt (τ45.1 71 49) = (te o).length := h46.2
                      have pτ45 : Op (τ45.1 109) (te o) := by rw [h46.1.a 109 (by decide) (by decide)]; exact Op_te o ho
                      have qτ45 := te_len o
                      skip
                      refine s_iconst C dX10_conditionFault_176 (by decide) (fun z47 tz47 => ?_)
                      refine s_istore_n C dX10_conditionFault_177 (by decide) (Nat.le_of_ble_eq_true rfl) rfl ?_
                      show WP E ad 178 [some (.ref (ad 71)), some (.int z47), some (.int z), some (.int (τ.1 86 z.toNatClampNeg))] [] τ45
                      refine s_iinc C dX10_conditionFault_178 rfl (by decide) rfl (by decide) (by omega) (fun z48 tz48 => ?_)
                      show WP E ad 181 [some (.ref (ad 71)), some (.int z47), some (.int z48), some (.int (τ.1 86 z.toNatClampNeg))] [] τ45
                      refine s_goto (tgt := 230) C dX10_conditionFault_181 (by decide) ?_
                      refine s_iload_n C dX10_conditionFault_230 rfl ?_
                      refine s_if_ge (tgt := 238) C dX10_conditionFault_231 (by decide) (fun q49 => ?_) (fun q49 => ?_)
                      · refine s_goto (tgt := 9) C dX10_conditionFault_238 (by decide) ?_
                        refine wp_le (lv' := [some (.ref (ad 71)), some (.int z47), some (.int z48), none]) ⟨rfl, ⟨rfl, ⟨rfl, trivial⟩⟩⟩ ?_
                        have ek1 : z48.toInt.toNat = z.toInt.toNat + 1 := by omega
                        exact ih τ45 (te o) z47 z48 (Fr.tr (Fr.tr Fr.rf (Fr.mo kF (by decide) (by decide))) (Fr.mo h46.1 (by decide) (by decide))) dτ45 pτ45 (by omega) (by omega) (by omega) (fun ⟨f, hf⟩ => hac ⟨f + 1, Or.inr ⟨by omega, Or.inr (Or.inr (Or.inr (Or.inr (Or.inl ⟨by omega, by omega, (by rw [ek1, show z47.toInt.toNat = 0 by omega] at hf; exact hf)⟩))))⟩⟩) (by omega)
                      · refine s_iconst C dX10_conditionFault_234 (by decide) (fun z50 tz50 => ?_)
                        refine s_iload_n C dX10_conditionFault_235 rfl ?_
                        refine s_isub C dX10_conditionFault_236 (by omega) (fun z51 tz51 => ?_)
                        exact s_iret C X dX10_conditionFault_237 ⟨(Fr.tr (Fr.tr Fr.rf (Fr.mo kF (by decide) (by decide))) (Fr.mo h46.1 (by decide) (by decide))), by omega, by omega, fun q => by omega⟩
                  · refine s_iload_n C dX10_conditionFault_161 rfl ?_
                    refine s_bipush C dX10_conditionFault_162 (by decide) (fun z52 tz52 => ?_)
                    refine s_icmp_ne (tgt := 184) C dX10_conditionFault_164 (by decide) (fun q53 => ?_) (fun q53 => ?_)
                    · refine s_iload_n C dX10_conditionFault_184 rfl ?_
                      refine s_bipush C dX10_conditionFault_185 (by decide) (fun z54 tz54 => ?_)
                      refine s_icmp_ne (tgt := 228) C dX10_conditionFault_187 (by decide) (fun q55 => ?_) (fun q55 => ?_)
                      · refine s_iload_n C dX10_conditionFault_228 rfl ?_
                        exact s_iret C X dX10_conditionFault_229 ⟨(Fr.tr Fr.rf (Fr.mo kF (by decide) (by decide))), by omega, by omega, fun q => by omega⟩
                      · refine s_iload_n C dX10_conditionFault_190 rfl ?_
                        refine s_iconst C dX10_conditionFault_191 (by decide) (fun z56 tz56 => ?_)
                        refine s_icmp_le (tgt := 228) C dX10_conditionFault_192 (by decide) (fun q57 => ?_) (fun q57 => ?_)
                        · refine s_iload_n C dX10_conditionFault_228 rfl ?_
                          exact s_iret C X dX10_conditionFault_229 ⟨(Fr.tr Fr.rf (Fr.mo kF (by decide) (by decide))), by omega, by omega, fun q => by omega⟩
                        · refine s_aload_n C dX10_conditionFault_195 rfl ?_
                          refine s_callVI (st := []) C (c_X10_isOpen l ad τ o hd ho (by omega)) cv_X10_269 y71 rfl rfl rfl ⟨by decide, by decide⟩ (Nat.le_of_ble_eq_true rfl) dX10_conditionFault_196 ?_
                          intro r58 τ59 h60
                          obtain ⟨eh60, h60⟩ := h60; replace eh60 := eh60.symm; subst eh60
                          have mh60 := h60.2
                          refine s_if_eq (tgt := 228) C dX10_conditionFault_199 (by decide) (fun q61 => ?_) (fun q61 => ?_)
                          · refine s_iload_n C dX10_conditionFault_228 rfl ?_
                            exact s_iret C X dX10_conditionFault_229 ⟨(Fr.tr Fr.rf (Fr.mo kF (by decide) (by decide))), by omega, by omega, fun q => by omega⟩
                          · refine s_aload_n C dX10_conditionFault_202 rfl ?_
                            refine s_callVV (st := []) C (c_X10_testEnds l ad τ o hd ho (by omega)) cv_X10_266 y71 rfl rfl rfl ⟨by decide, by decide⟩ (Nat.le_of_ble_eq_true rfl) dX10_conditionFault_203 ?_
                            intro τ63 h64
                            have dτ63 : Int32.toInt (τ63.1 71 49) = (te o).length := h64.2
                            have pτ63 : Op (τ63.1 109) (te o) := by rw [h64.1.a 109 (by decide) (by decide)]; exact Op_te o ho
                            have qτ63 := te_len o
                            obtain ⟨r6, hr6⟩ := te_hd (mh60.mp (by omega))
                            have hl6 : 1 ≤ (te o).length := by rw [hr6]; simp
                            refine s_aload_n C dX10_conditionFault_206 rfl ?_
                            refine s_dup C dX10_conditionFault_207 rfl ?_
                            refine s_get (k := 49) (x := (τ63.1 71 49)) C y71 fw_X10_260 rfl rfl dX10_conditionFault_208 ?_
                            refine s_iconst C dX10_conditionFault_211 (by decide) (fun z65 tz65 => ?_)
                            refine s_isub C dX10_conditionFault_212 (by omega) (fun z66 tz66 => ?_)
                            refine s_put (k := 49) C y71 fw_X10_260 fp_9_49 rfl dX10_conditionFault_213 ?_
                            refine s_aload_n C dX10_conditionFault_216 rfl ?_
                            refine s_callVV (st := []) C (c_X10_testEnds l ad (sV τ63 71 49 z66) (te o).tail (by show Int32.toInt z66 = _; rw [List.length_tail]; omega) (Op_tail _ pτ63) (by rw [List.length_tail]; omega)) cv_X10_266 y71 rfl rfl rfl ⟨by decide, by decide⟩ (Nat.le_of_ble_eq_true rfl) dX10_conditionFault_217 ?_
                            intro τ68 h69
                            have dτ68 : Int32.toInt (τ68.1 71 49) = (te (te o).tail).length := h69.2
                            have pτ68 : Op (τ68.1 109) (te (te o).tail) := by rw [h69.1.a 109 (by decide) (by decide)]; exact Op_te _ (Op_tail _ pτ63)
                            have qτ68 := te_len (te o).tail
                            have qqτ68 : (te o).tail.length = (te o).length - 1 := List.length_tail
                            skip
                            refine s_iconst C dX10_conditionFault_220 (by decide) (fun z70 tz70 => ?_)
                            refine s_istore_n C dX10_conditionFault_221 (by decide) (Nat.le_of_ble_eq_true rfl) rfl ?_
                            show WP E ad 222 [some (.ref (ad 71)), some (.int z70), some (.int z), some (.int (τ.1 86 z.toNatClampNeg))] [] τ68
                            refine s_iinc C dX10_conditionFault_222 rfl (by decide) rfl (by decide) (by omega) (fun z71 tz71 => ?_)
                            show WP E ad 225 [some (.ref (ad 71)), some (.int z70), some (.int z71), some (.int (τ.1 86 z.toNatClampNeg))] [] τ68
                            refine s_goto (tgt := 230) C dX10_conditionFault_225 (by decide) ?_
                            refine s_iload_n C dX10_conditionFault_230 rfl ?_
                            refine s_if_ge (tgt := 238) C dX10_conditionFault_231 (by decide) (fun q72 => ?_) (fun q72 => ?_)
                            · refine s_goto (tgt := 9) C dX10_conditionFault_238 (by decide) ?_
                              refine wp_le (lv' := [some (.ref (ad 71)), some (.int z70), some (.int z71), none]) ⟨rfl, ⟨rfl, ⟨rfl, trivial⟩⟩⟩ ?_
                              have ek1 : z71.toInt.toNat = z.toInt.toNat + 1 := by omega
                              exact ih τ68 (te (te o).tail) z70 z71 (Fr.tr (Fr.sV (Fr.tr (Fr.tr Fr.rf (Fr.mo kF (by decide) (by decide))) (Fr.mo h64.1 (by decide) (by decide))) (Or.inr (by decide))) (Fr.mo h69.1 (by decide) (by decide))) dτ68 pτ68 (by omega) (by omega) (by omega) (fun ⟨f, hf⟩ => hac ⟨f + 1, Or.inr ⟨by omega, Or.inr (Or.inr (Or.inr (Or.inr (Or.inr ⟨by omega, by omega, mh60.mp (by omega), (by rw [ek1, show z70.toInt.toNat = 3 by omega] at hf; exact hf)⟩))))⟩⟩) (by omega)
                            · refine s_iconst C dX10_conditionFault_234 (by decide) (fun z73 tz73 => ?_)
                              refine s_iload_n C dX10_conditionFault_235 rfl ?_
                              refine s_isub C dX10_conditionFault_236 (by omega) (fun z74 tz74 => ?_)
                              exact s_iret C X dX10_conditionFault_237 ⟨(Fr.tr (Fr.sV (Fr.tr (Fr.tr Fr.rf (Fr.mo kF (by decide) (by decide))) (Fr.mo h64.1 (by decide) (by decide))) (Or.inr (by decide))) (Fr.mo h69.1 (by decide) (by decide))), by omega, by omega, fun q => by omega⟩
                    · refine s_iload_n C dX10_conditionFault_167 rfl ?_
                      refine s_iconst C dX10_conditionFault_168 (by decide) (fun z75 tz75 => ?_)
                      refine s_icmp_le (tgt := 184) C dX10_conditionFault_169 (by decide) (fun q76 => ?_) (fun q76 => ?_)
                      · refine s_iload_n C dX10_conditionFault_184 rfl ?_
                        refine s_bipush C dX10_conditionFault_185 (by decide) (fun z77 tz77 => ?_)
                        refine s_icmp_ne (tgt := 228) C dX10_conditionFault_187 (by decide) (fun q78 => ?_) (fun q78 => ?_)
                        · refine s_iload_n C dX10_conditionFault_228 rfl ?_
                          exact s_iret C X dX10_conditionFault_229 ⟨(Fr.tr Fr.rf (Fr.mo kF (by decide) (by decide))), by omega, by omega, fun q => by omega⟩
                        · refine s_iload_n C dX10_conditionFault_190 rfl ?_
                          refine s_iconst C dX10_conditionFault_191 (by decide) (fun z79 tz79 => ?_)
                          refine s_icmp_le (tgt := 228) C dX10_conditionFault_192 (by decide) (fun q80 => ?_) (fun q80 => ?_)
                          · refine s_iload_n C dX10_conditionFault_228 rfl ?_
                            exact s_iret C X dX10_conditionFault_229 ⟨(Fr.tr Fr.rf (Fr.mo kF (by decide) (by decide))), by omega, by omega, fun q => by omega⟩
                          · refine s_aload_n C dX10_conditionFault_195 rfl ?_
                            refine s_callVI (st := []) C (c_X10_isOpen l ad τ o hd ho (by omega)) cv_X10_269 y71 rfl rfl rfl ⟨by decide, by decide⟩ (Nat.le_of_ble_eq_true rfl) dX10_conditionFault_196 ?_
                            intro r81 τ82 h83
                            obtain ⟨eh83, h83⟩ := h83; replace eh83 := eh83.symm; subst eh83
                            have mh83 := h83.2
                            refine s_if_eq (tgt := 228) C dX10_conditionFault_199 (by decide) (fun q84 => ?_) (fun q84 => ?_)
                            · refine s_iload_n C dX10_conditionFault_228 rfl ?_
                              exact s_iret C X dX10_conditionFault_229 ⟨(Fr.tr Fr.rf (Fr.mo kF (by decide) (by decide))), by omega, by omega, fun q => by omega⟩
                            · refine s_aload_n C dX10_conditionFault_202 rfl ?_
                              refine s_callVV (st := []) C (c_X10_testEnds l ad τ o hd ho (by omega)) cv_X10_266 y71 rfl rfl rfl ⟨by decide, by decide⟩ (Nat.le_of_ble_eq_true rfl) dX10_conditionFault_203 ?_
                              intro τ86 h87
                              have dτ86 : Int32.toInt (τ86.1 71 49) = (te o).length := h87.2
                              have pτ86 : Op (τ86.1 109) (te o) := by rw [h87.1.a 109 (by decide) (by decide)]; exact Op_te o ho
                              have qτ86 := te_len o
                              obtain ⟨r6, hr6⟩ := te_hd (mh83.mp (by omega))
                              have hl6 : 1 ≤ (te o).length := by rw [hr6]; simp
                              refine s_aload_n C dX10_conditionFault_206 rfl ?_
                              refine s_dup C dX10_conditionFault_207 rfl ?_
                              refine s_get (k := 49) (x := (τ86.1 71 49)) C y71 fw_X10_260 rfl rfl dX10_conditionFault_208 ?_
                              refine s_iconst C dX10_conditionFault_211 (by decide) (fun z88 tz88 => ?_)
                              refine s_isub C dX10_conditionFault_212 (by omega) (fun z89 tz89 => ?_)
                              refine s_put (k := 49) C y71 fw_X10_260 fp_9_49 rfl dX10_conditionFault_213 ?_
                              refine s_aload_n C dX10_conditionFault_216 rfl ?_
                              refine s_callVV (st := []) C (c_X10_testEnds l ad (sV τ86 71 49 z89) (te o).tail (by show Int32.toInt z89 = _; rw [List.length_tail]; omega) (Op_tail _ pτ86) (by rw [List.length_tail]; omega)) cv_X10_266 y71 rfl rfl rfl ⟨by decide, by decide⟩ (Nat.le_of_ble_eq_true rfl) dX10_conditionFault_217 ?_
                              intro τ91 h92
                              have dτ91 : Int32.toInt (τ91.1 71 49) = (te (te o).tail).length := h92.2
                              have pτ91 : Op (τ91.1 109) (te (te o).tail) := by rw [h92.1.a 109 (by decide) (by decide)]; exact Op_te _ (Op_tail _ pτ86)
                              have qτ91 := te_len (te o).tail
                              have qqτ91 : (te o).tail.length = (te o).length - 1 := List.length_tail
                              skip
                              refine s_iconst C dX10_conditionFault_220 (by decide) (fun z93 tz93 => ?_)
                              refine s_istore_n C dX10_conditionFault_221 (by decide) (Nat.le_of_ble_eq_true rfl) rfl ?_
                              show WP E ad 222 [some (.ref (ad 71)), some (.int z93), some (.int z), some (.int (τ.1 86 z.toNatClampNeg))] [] τ91
                              refine s_iinc C dX10_conditionFault_222 rfl (by decide) rfl (by decide) (by omega) (fun z94 tz94 => ?_)
                              show WP E ad 225 [some (.ref (ad 71)), some (.int z93), some (.int z94), some (.int (τ.1 86 z.toNatClampNeg))] [] τ91
                              refine s_goto (tgt := 230) C dX10_conditionFault_225 (by decide) ?_
                              refine s_iload_n C dX10_conditionFault_230 rfl ?_
                              refine s_if_ge (tgt := 238) C dX10_conditionFault_231 (by decide) (fun q95 => ?_) (fun q95 => ?_)
                              · refine s_goto (tgt := 9) C dX10_conditionFault_238 (by decide) ?_
                                refine wp_le (lv' := [some (.ref (ad 71)), some (.int z93), some (.int z94), none]) ⟨rfl, ⟨rfl, ⟨rfl, trivial⟩⟩⟩ ?_
                                have ek1 : z94.toInt.toNat = z.toInt.toNat + 1 := by omega
                                exact ih τ91 (te (te o).tail) z93 z94 (Fr.tr (Fr.sV (Fr.tr (Fr.tr Fr.rf (Fr.mo kF (by decide) (by decide))) (Fr.mo h87.1 (by decide) (by decide))) (Or.inr (by decide))) (Fr.mo h92.1 (by decide) (by decide))) dτ91 pτ91 (by omega) (by omega) (by omega) (fun ⟨f, hf⟩ => hac ⟨f + 1, Or.inr ⟨by omega, Or.inr (Or.inr (Or.inr (Or.inr (Or.inr ⟨by omega, by omega, mh83.mp (by omega), (by rw [ek1, show z93.toInt.toNat = 3 by omega] at hf; exact hf)⟩))))⟩⟩) (by omega)
                              · refine s_iconst C dX10_conditionFault_234 (by decide) (fun z96 tz96 => ?_)
                                refine s_iload_n C dX10_conditionFault_235 rfl ?_
                                refine s_isub C dX10_conditionFault_236 (by omega) (fun z97 tz97 => ?_)
                                exact s_iret C X dX10_conditionFault_237 ⟨(Fr.tr (Fr.sV (Fr.tr (Fr.tr Fr.rf (Fr.mo kF (by decide) (by decide))) (Fr.mo h87.1 (by decide) (by decide))) (Or.inr (by decide))) (Fr.mo h92.1 (by decide) (by decide))), by omega, by omega, fun q => by omega⟩
                      · refine s_aload_n C dX10_conditionFault_172 rfl ?_
                        refine s_callVV (st := []) C (c_X10_testEnds l ad τ o hd ho (by omega)) cv_X10_266 y71 rfl rfl rfl ⟨by decide, by decide⟩ (Nat.le_of_ble_eq_true rfl) dX10_conditionFault_173 ?_
                        intro τ99 h100
                        have dτ99 : Int32.toInt (τ99.1 71 49) = (te o).length := h100.2
                        have pτ99 : Op (τ99.1 109) (te o) := by rw [h100.1.a 109 (by decide) (by decide)]; exact Op_te o ho
                        have qτ99 := te_len o
                        skip
                        refine s_iconst C dX10_conditionFault_176 (by decide) (fun z101 tz101 => ?_)
                        refine s_istore_n C dX10_conditionFault_177 (by decide) (Nat.le_of_ble_eq_true rfl) rfl ?_
                        show WP E ad 178 [some (.ref (ad 71)), some (.int z101), some (.int z), some (.int (τ.1 86 z.toNatClampNeg))] [] τ99
                        refine s_iinc C dX10_conditionFault_178 rfl (by decide) rfl (by decide) (by omega) (fun z102 tz102 => ?_)
                        show WP E ad 181 [some (.ref (ad 71)), some (.int z101), some (.int z102), some (.int (τ.1 86 z.toNatClampNeg))] [] τ99
                        refine s_goto (tgt := 230) C dX10_conditionFault_181 (by decide) ?_
                        refine s_iload_n C dX10_conditionFault_230 rfl ?_
                        refine s_if_ge (tgt := 238) C dX10_conditionFault_231 (by decide) (fun q103 => ?_) (fun q103 => ?_)
                        · refine s_goto (tgt := 9) C dX10_conditionFault_238 (by decide) ?_
                          refine wp_le (lv' := [some (.ref (ad 71)), some (.int z101), some (.int z102), none]) ⟨rfl, ⟨rfl, ⟨rfl, trivial⟩⟩⟩ ?_
                          have ek1 : z102.toInt.toNat = z.toInt.toNat + 1 := by omega
                          exact ih τ99 (te o) z101 z102 (Fr.tr (Fr.tr Fr.rf (Fr.mo kF (by decide) (by decide))) (Fr.mo h100.1 (by decide) (by decide))) dτ99 pτ99 (by omega) (by omega) (by omega) (fun ⟨f, hf⟩ => hac ⟨f + 1, Or.inr ⟨by omega, Or.inr (Or.inr (Or.inr (Or.inr (Or.inl ⟨by omega, by omega, (by rw [ek1, show z101.toInt.toNat = 0 by omega] at hf; exact hf)⟩))))⟩⟩) (by omega)
                        · refine s_iconst C dX10_conditionFault_234 (by decide) (fun z104 tz104 => ?_)
                          refine s_iload_n C dX10_conditionFault_235 rfl ?_
                          refine s_isub C dX10_conditionFault_236 (by omega) (fun z105 tz105 => ?_)
                          exact s_iret C X dX10_conditionFault_237 ⟨(Fr.tr (Fr.tr Fr.rf (Fr.mo kF (by decide) (by decide))) (Fr.mo h100.1 (by decide) (by decide))), by omega, by omega, fun q => by omega⟩
                · refine s_aload_n C dX10_conditionFault_142 rfl ?_
                  refine s_iload_n C dX10_conditionFault_143 rfl ?_
                  refine s_iconst C dX10_conditionFault_144 (by decide) (fun z106 tz106 => ?_)
                  refine s_iadd C dX10_conditionFault_145 (by omega) (fun z107 tz107 => ?_)
                  refine s_callVI (st := []) C (c_X10_behindUnit l ad τ z107 (by omega) (by omega) (by omega)) cv_X10_263 y71 rfl rfl rfl ⟨by decide, by decide⟩ (Nat.le_of_ble_eq_true rfl) dX10_conditionFault_146 ?_
                  intro r108 τ109 h110
                  obtain ⟨eh110, h110⟩ := h110; replace eh110 := eh110.symm; subst eh110
                  have uh110 := h110.2.2
                  rw [f0, f17, e86] at uh110
                  have vh110 : 0 ≤ Int32.toInt r108 → Int32.toInt r108 ≤ Int32.toInt (σ.1 71 17) := fun q => by have := un_le (uh110 q).2; omega
                  skip
                  refine s_istore_n C dX10_conditionFault_149 (by decide) (Nat.le_of_ble_eq_true rfl) rfl ?_
                  show WP E ad 150 [some (.ref (ad 71)), some (.int y), some (.int r108), some (.int (τ.1 86 z.toNatClampNeg))] [] τ
                  refine s_iconst C dX10_conditionFault_150 (by decide) (fun z111 tz111 => ?_)
                  refine s_istore_n C dX10_conditionFault_151 (by decide) (Nat.le_of_ble_eq_true rfl) rfl ?_
                  show WP E ad 152 [some (.ref (ad 71)), some (.int z111), some (.int r108), some (.int (τ.1 86 z.toNatClampNeg))] [] τ
                  refine s_goto (tgt := 230) C dX10_conditionFault_152 (by decide) ?_
                  refine s_iload_n C dX10_conditionFault_230 rfl ?_
                  refine s_if_ge (tgt := 238) C dX10_conditionFault_231 (by decide) (fun q112 => ?_) (fun q112 => ?_)
                  · refine s_goto (tgt := 9) C dX10_conditionFault_238 (by decide) ?_
                    refine wp_le (lv' := [some (.ref (ad 71)), some (.int z111), some (.int r108), none]) ⟨rfl, ⟨rfl, ⟨rfl, trivial⟩⟩⟩ ?_
                    have ez1 : z107.toInt.toNat = z.toInt.toNat + 1 := by omega
                    rw [ez1] at uh110
                    exact ih τ o z111 r108 (Fr.tr Fr.rf (Fr.mo kF (by decide) (by decide))) hd ho (by omega) (by omega) (by omega) (fun ⟨f, hf⟩ => hac ⟨f + 1, Or.inr ⟨by omega, Or.inr (Or.inr (Or.inr (Or.inl ⟨by omega, by omega, _, (uh110 (by omega)).2, (by rw [show z111.toInt.toNat = 2 by omega] at hf; exact hf)⟩)))⟩⟩) (by omega)
                  · refine s_iconst C dX10_conditionFault_234 (by decide) (fun z113 tz113 => ?_)
                    refine s_iload_n C dX10_conditionFault_235 rfl ?_
                    refine s_isub C dX10_conditionFault_236 (by omega) (fun z114 tz114 => ?_)
                    exact s_iret C X dX10_conditionFault_237 ⟨(Fr.tr Fr.rf (Fr.mo kF (by decide) (by decide))), by omega, by omega, fun q => by omega⟩
              · refine s_iload_n C dX10_conditionFault_125 rfl ?_
                refine s_bipush C dX10_conditionFault_126 (by decide) (fun z115 tz115 => ?_)
                refine s_icmp_eq (tgt := 137) C dX10_conditionFault_128 (by decide) (fun q116 => ?_) (fun q116 => ?_)
                · refine s_iload_n C dX10_conditionFault_137 rfl ?_
                  refine s_iconst C dX10_conditionFault_138 (by decide) (fun z117 tz117 => ?_)
                  refine s_icmp_ne (tgt := 155) C dX10_conditionFault_139 (by decide) (fun q118 => ?_) (fun q118 => ?_)
                  · refine s_iload_n C dX10_conditionFault_155 rfl ?_
                    refine s_bipush C dX10_conditionFault_156 (by decide) (fun z119 tz119 => ?_)
                    refine s_icmp_eq (tgt := 167) C dX10_conditionFault_158 (by decide) (fun q120 => ?_) (fun q120 => ?_)
                    · refine s_iload_n C dX10_conditionFault_167 rfl ?_
                      refine s_iconst C dX10_conditionFault_168 (by decide) (fun z121 tz121 => ?_)
                      refine s_icmp_le (tgt := 184) C dX10_conditionFault_169 (by decide) (fun q122 => ?_) (fun q122 => ?_)
                      · refine s_iload_n C dX10_conditionFault_184 rfl ?_
                        refine s_bipush C dX10_conditionFault_185 (by decide) (fun z123 tz123 => ?_)
                        refine s_icmp_ne (tgt := 228) C dX10_conditionFault_187 (by decide) (fun q124 => ?_) (fun q124 => ?_)
                        · refine s_iload_n C dX10_conditionFault_228 rfl ?_
                          exact s_iret C X dX10_conditionFault_229 ⟨(Fr.tr Fr.rf (Fr.mo kF (by decide) (by decide))), by omega, by omega, fun q => by omega⟩
                        · refine s_iload_n C dX10_conditionFault_190 rfl ?_
                          refine s_iconst C dX10_conditionFault_191 (by decide) (fun z125 tz125 => ?_)
                          refine s_icmp_le (tgt := 228) C dX10_conditionFault_192 (by decide) (fun q126 => ?_) (fun q126 => ?_)
                          · refine s_iload_n C dX10_conditionFault_228 rfl ?_
                            exact s_iret C X dX10_conditionFault_229 ⟨(Fr.tr Fr.rf (Fr.mo kF (by decide) (by decide))), by omega, by omega, fun q => by omega⟩
                          · refine s_aload_n C dX10_conditionFault_195 rfl ?_
                            refine s_callVI (st := []) C (c_X10_isOpen l ad τ o hd ho (by omega)) cv_X10_269 y71 rfl rfl rfl ⟨by decide, by decide⟩ (Nat.le_of_ble_eq_true rfl) dX10_conditionFault_196 ?_
                            intro r127 τ128 h129
                            obtain ⟨eh129, h129⟩ := h129; replace eh129 := eh129.symm; subst eh129
                            have mh129 := h129.2
                            refine s_if_eq (tgt := 228) C dX10_conditionFault_199 (by decide) (fun q130 => ?_) (fun q130 => ?_)
                            · refine s_iload_n C dX10_conditionFault_228 rfl ?_
                              exact s_iret C X dX10_conditionFault_229 ⟨(Fr.tr Fr.rf (Fr.mo kF (by decide) (by decide))), by omega, by omega, fun q => by omega⟩
                            · refine s_aload_n C dX10_conditionFault_202 rfl ?_
                              refine s_callVV (st := []) C (c_X10_testEnds l ad τ o hd ho (by omega)) cv_X10_266 y71 rfl rfl rfl ⟨by decide, by decide⟩ (Nat.le_of_ble_eq_true rfl) dX10_conditionFault_203 ?_
                              intro τ132 h133
                              have dτ132 : Int32.toInt (τ132.1 71 49) = (te o).length := h133.2
                              have pτ132 : Op (τ132.1 109) (te o) := by rw [h133.1.a 109 (by decide) (by decide)]; exact Op_te o ho
                              have qτ132 := te_len o
                              obtain ⟨r6, hr6⟩ := te_hd (mh129.mp (by omega))
                              have hl6 : 1 ≤ (te o).length := by rw [hr6]; simp
                              refine s_aload_n C dX10_conditionFault_206 rfl ?_
                              refine s_dup C dX10_conditionFault_207 rfl ?_
                              refine s_get (k := 49) (x := (τ132.1 71 49)) C y71 fw_X10_260 rfl rfl dX10_conditionFault_208 ?_
                              refine s_iconst C dX10_conditionFault_211 (by decide) (fun z134 tz134 => ?_)
                              refine s_isub C dX10_conditionFault_212 (by omega) (fun z135 tz135 => ?_)
                              refine s_put (k := 49) C y71 fw_X10_260 fp_9_49 rfl dX10_conditionFault_213 ?_
                              refine s_aload_n C dX10_conditionFault_216 rfl ?_
                              refine s_callVV (st := []) C (c_X10_testEnds l ad (sV τ132 71 49 z135) (te o).tail (by show Int32.toInt z135 = _; rw [List.length_tail]; omega) (Op_tail _ pτ132) (by rw [List.length_tail]; omega)) cv_X10_266 y71 rfl rfl rfl ⟨by decide, by decide⟩ (Nat.le_of_ble_eq_true rfl) dX10_conditionFault_217 ?_
                              intro τ137 h138
                              have dτ137 : Int32.toInt (τ137.1 71 49) = (te (te o).tail).length := h138.2
                              have pτ137 : Op (τ137.1 109) (te (te o).tail) := by rw [h138.1.a 109 (by decide) (by decide)]; exact Op_te _ (Op_tail _ pτ132)
                              have qτ137 := te_len (te o).tail
                              have qqτ137 : (te o).tail.length = (te o).length - 1 := List.length_tail
                              skip
                              refine s_iconst C dX10_conditionFault_220 (by decide) (fun z139 tz139 => ?_)
                              refine s_istore_n C dX10_conditionFault_221 (by decide) (Nat.le_of_ble_eq_true rfl) rfl ?_
                              show WP E ad 222 [some (.ref (ad 71)), some (.int z139), some (.int z), some (.int (τ.1 86 z.toNatClampNeg))] [] τ137
                              refine s_iinc C dX10_conditionFault_222 rfl (by decide) rfl (by decide) (by omega) (fun z140 tz140 => ?_)
                              show WP E ad 225 [some (.ref (ad 71)), some (.int z139), some (.int z140), some (.int (τ.1 86 z.toNatClampNeg))] [] τ137
                              refine s_goto (tgt := 230) C dX10_conditionFault_225 (by decide) ?_
                              refine s_iload_n C dX10_conditionFault_230 rfl ?_
                              refine s_if_ge (tgt := 238) C dX10_conditionFault_231 (by decide) (fun q141 => ?_) (fun q141 => ?_)
                              · refine s_goto (tgt := 9) C dX10_conditionFault_238 (by decide) ?_
                                refine wp_le (lv' := [some (.ref (ad 71)), some (.int z139), some (.int z140), none]) ⟨rfl, ⟨rfl, ⟨rfl, trivial⟩⟩⟩ ?_
                                have ek1 : z140.toInt.toNat = z.toInt.toNat + 1 := by omega
                                exact ih τ137 (te (te o).tail) z139 z140 (Fr.tr (Fr.sV (Fr.tr (Fr.tr Fr.rf (Fr.mo kF (by decide) (by decide))) (Fr.mo h133.1 (by decide) (by decide))) (Or.inr (by decide))) (Fr.mo h138.1 (by decide) (by decide))) dτ137 pτ137 (by omega) (by omega) (by omega) (fun ⟨f, hf⟩ => hac ⟨f + 1, Or.inr ⟨by omega, Or.inr (Or.inr (Or.inr (Or.inr (Or.inr ⟨by omega, by omega, mh129.mp (by omega), (by rw [ek1, show z139.toInt.toNat = 3 by omega] at hf; exact hf)⟩))))⟩⟩) (by omega)
                              · refine s_iconst C dX10_conditionFault_234 (by decide) (fun z142 tz142 => ?_)
                                refine s_iload_n C dX10_conditionFault_235 rfl ?_
                                refine s_isub C dX10_conditionFault_236 (by omega) (fun z143 tz143 => ?_)
                                exact s_iret C X dX10_conditionFault_237 ⟨(Fr.tr (Fr.sV (Fr.tr (Fr.tr Fr.rf (Fr.mo kF (by decide) (by decide))) (Fr.mo h133.1 (by decide) (by decide))) (Or.inr (by decide))) (Fr.mo h138.1 (by decide) (by decide))), by omega, by omega, fun q => by omega⟩
                      · refine s_aload_n C dX10_conditionFault_172 rfl ?_
                        refine s_callVV (st := []) C (c_X10_testEnds l ad τ o hd ho (by omega)) cv_X10_266 y71 rfl rfl rfl ⟨by decide, by decide⟩ (Nat.le_of_ble_eq_true rfl) dX10_conditionFault_173 ?_
                        intro τ145 h146
                        have dτ145 : Int32.toInt (τ145.1 71 49) = (te o).length := h146.2
                        have pτ145 : Op (τ145.1 109) (te o) := by rw [h146.1.a 109 (by decide) (by decide)]; exact Op_te o ho
                        have qτ145 := te_len o
                        skip
                        refine s_iconst C dX10_conditionFault_176 (by decide) (fun z147 tz147 => ?_)
                        refine s_istore_n C dX10_conditionFault_177 (by decide) (Nat.le_of_ble_eq_true rfl) rfl ?_
                        show WP E ad 178 [some (.ref (ad 71)), some (.int z147), some (.int z), some (.int (τ.1 86 z.toNatClampNeg))] [] τ145
                        refine s_iinc C dX10_conditionFault_178 rfl (by decide) rfl (by decide) (by omega) (fun z148 tz148 => ?_)
                        show WP E ad 181 [some (.ref (ad 71)), some (.int z147), some (.int z148), some (.int (τ.1 86 z.toNatClampNeg))] [] τ145
                        refine s_goto (tgt := 230) C dX10_conditionFault_181 (by decide) ?_
                        refine s_iload_n C dX10_conditionFault_230 rfl ?_
                        refine s_if_ge (tgt := 238) C dX10_conditionFault_231 (by decide) (fun q149 => ?_) (fun q149 => ?_)
                        · refine s_goto (tgt := 9) C dX10_conditionFault_238 (by decide) ?_
                          refine wp_le (lv' := [some (.ref (ad 71)), some (.int z147), some (.int z148), none]) ⟨rfl, ⟨rfl, ⟨rfl, trivial⟩⟩⟩ ?_
                          have ek1 : z148.toInt.toNat = z.toInt.toNat + 1 := by omega
                          exact ih τ145 (te o) z147 z148 (Fr.tr (Fr.tr Fr.rf (Fr.mo kF (by decide) (by decide))) (Fr.mo h146.1 (by decide) (by decide))) dτ145 pτ145 (by omega) (by omega) (by omega) (fun ⟨f, hf⟩ => hac ⟨f + 1, Or.inr ⟨by omega, Or.inr (Or.inr (Or.inr (Or.inr (Or.inl ⟨by omega, by omega, (by rw [ek1, show z147.toInt.toNat = 0 by omega] at hf; exact hf)⟩))))⟩⟩) (by omega)
                        · refine s_iconst C dX10_conditionFault_234 (by decide) (fun z150 tz150 => ?_)
                          refine s_iload_n C dX10_conditionFault_235 rfl ?_
                          refine s_isub C dX10_conditionFault_236 (by omega) (fun z151 tz151 => ?_)
                          exact s_iret C X dX10_conditionFault_237 ⟨(Fr.tr (Fr.tr Fr.rf (Fr.mo kF (by decide) (by decide))) (Fr.mo h146.1 (by decide) (by decide))), by omega, by omega, fun q => by omega⟩
                    · refine s_iload_n C dX10_conditionFault_161 rfl ?_
                      refine s_bipush C dX10_conditionFault_162 (by decide) (fun z152 tz152 => ?_)
                      refine s_icmp_ne (tgt := 184) C dX10_conditionFault_164 (by decide) (fun q153 => ?_) (fun q153 => ?_)
                      · refine s_iload_n C dX10_conditionFault_184 rfl ?_
                        refine s_bipush C dX10_conditionFault_185 (by decide) (fun z154 tz154 => ?_)
                        refine s_icmp_ne (tgt := 228) C dX10_conditionFault_187 (by decide) (fun q155 => ?_) (fun q155 => ?_)
                        · refine s_iload_n C dX10_conditionFault_228 rfl ?_
                          exact s_iret C X dX10_conditionFault_229 ⟨(Fr.tr Fr.rf (Fr.mo kF (by decide) (by decide))), by omega, by omega, fun q => by omega⟩
                        · refine s_iload_n C dX10_conditionFault_190 rfl ?_
                          refine s_iconst C dX10_conditionFault_191 (by decide) (fun z156 tz156 => ?_)
                          refine s_icmp_le (tgt := 228) C dX10_conditionFault_192 (by decide) (fun q157 => ?_) (fun q157 => ?_)
                          · refine s_iload_n C dX10_conditionFault_228 rfl ?_
                            exact s_iret C X dX10_conditionFault_229 ⟨(Fr.tr Fr.rf (Fr.mo kF (by decide) (by decide))), by omega, by omega, fun q => by omega⟩
                          · refine s_aload_n C dX10_conditionFault_195 rfl ?_
                            refine s_callVI (st := []) C (c_X10_isOpen l ad τ o hd ho (by omega)) cv_X10_269 y71 rfl rfl rfl ⟨by decide, by decide⟩ (Nat.le_of_ble_eq_true rfl) dX10_conditionFault_196 ?_
                            intro r158 τ159 h160
                            obtain ⟨eh160, h160⟩ := h160; replace eh160 := eh160.symm; subst eh160
                            have mh160 := h160.2
                            refine s_if_eq (tgt := 228) C dX10_conditionFault_199 (by decide) (fun q161 => ?_) (fun q161 => ?_)
                            · refine s_iload_n C dX10_conditionFault_228 rfl ?_
                              exact s_iret C X dX10_conditionFault_229 ⟨(Fr.tr Fr.rf (Fr.mo kF (by decide) (by decide))), by omega, by omega, fun q => by omega⟩
                            · refine s_aload_n C dX10_conditionFault_202 rfl ?_
                              refine s_callVV (st := []) C (c_X10_testEnds l ad τ o hd ho (by omega)) cv_X10_266 y71 rfl rfl rfl ⟨by decide, by decide⟩ (Nat.le_of_ble_eq_true rfl) dX10_conditionFault_203 ?_
                              intro τ163 h164
                              have dτ163 : Int32.toInt (τ163.1 71 49) = (te o).length := h164.2
                              have pτ163 : Op (τ163.1 109) (te o) := by rw [h164.1.a 109 (by decide) (by decide)]; exact Op_te o ho
                              have qτ163 := te_len o
                              obtain ⟨r6, hr6⟩ := te_hd (mh160.mp (by omega))
                              have hl6 : 1 ≤ (te o).length := by rw [hr6]; simp
                              refine s_aload_n C dX10_conditionFault_206 rfl ?_
                              refine s_dup C dX10_conditionFault_207 rfl ?_
                              refine s_get (k := 49) (x := (τ163.1 71 49)) C y71 fw_X10_260 rfl rfl dX10_conditionFault_208 ?_
                              refine s_iconst C dX10_conditionFault_211 (by decide) (fun z165 tz165 => ?_)
                              refine s_isub C dX10_conditionFault_212 (by omega) (fun z166 tz166 => ?_)
                              refine s_put (k := 49) C y71 fw_X10_260 fp_9_49 rfl dX10_conditionFault_213 ?_
                              refine s_aload_n C dX10_conditionFault_216 rfl ?_
                              refine s_callVV (st := []) C (c_X10_testEnds l ad (sV τ163 71 49 z166) (te o).tail (by show Int32.toInt z166 = _; rw [List.length_tail]; omega) (Op_tail _ pτ163) (by rw [List.length_tail]; omega)) cv_X10_266 y71 rfl rfl rfl ⟨by decide, by decide⟩ (Nat.le_of_ble_eq_true rfl) dX10_conditionFault_217 ?_
                              intro τ168 h169
                              have dτ168 : Int32.toInt (τ168.1 71 49) = (te (te o).tail).length := h169.2
                              have pτ168 : Op (τ168.1 109) (te (te o).tail) := by rw [h169.1.a 109 (by decide) (by decide)]; exact Op_te _ (Op_tail _ pτ163)
                              have qτ168 := te_len (te o).tail
                              have qqτ168 : (te o).tail.length = (te o).length - 1 := List.length_tail
                              skip
                              refine s_iconst C dX10_conditionFault_220 (by decide) (fun z170 tz170 => ?_)
                              refine s_istore_n C dX10_conditionFault_221 (by decide) (Nat.le_of_ble_eq_true rfl) rfl ?_
                              show WP E ad 222 [some (.ref (ad 71)), some (.int z170), some (.int z), some (.int (τ.1 86 z.toNatClampNeg))] [] τ168
                              refine s_iinc C dX10_conditionFault_222 rfl (by decide) rfl (by decide) (by omega) (fun z171 tz171 => ?_)
                              show WP E ad 225 [some (.ref (ad 71)), some (.int z170), some (.int z171), some (.int (τ.1 86 z.toNatClampNeg))] [] τ168
                              refine s_goto (tgt := 230) C dX10_conditionFault_225 (by decide) ?_
                              refine s_iload_n C dX10_conditionFault_230 rfl ?_
                              refine s_if_ge (tgt := 238) C dX10_conditionFault_231 (by decide) (fun q172 => ?_) (fun q172 => ?_)
                              · refine s_goto (tgt := 9) C dX10_conditionFault_238 (by decide) ?_
                                refine wp_le (lv' := [some (.ref (ad 71)), some (.int z170), some (.int z171), none]) ⟨rfl, ⟨rfl, ⟨rfl, trivial⟩⟩⟩ ?_
                                have ek1 : z171.toInt.toNat = z.toInt.toNat + 1 := by omega
                                exact ih τ168 (te (te o).tail) z170 z171 (Fr.tr (Fr.sV (Fr.tr (Fr.tr Fr.rf (Fr.mo kF (by decide) (by decide))) (Fr.mo h164.1 (by decide) (by decide))) (Or.inr (by decide))) (Fr.mo h169.1 (by decide) (by decide))) dτ168 pτ168 (by omega) (by omega) (by omega) (fun ⟨f, hf⟩ => hac ⟨f + 1, Or.inr ⟨by omega, Or.inr (Or.inr (Or.inr (Or.inr (Or.inr ⟨by omega, by omega, mh160.mp (by omega), (by rw [ek1, show z170.toInt.toNat = 3 by omega] at hf; exact hf)⟩))))⟩⟩) (by omega)
                              · refine s_iconst C dX10_conditionFault_234 (by decide) (fun z173 tz173 => ?_)
                                refine s_iload_n C dX10_conditionFault_235 rfl ?_
                                refine s_isub C dX10_conditionFault_236 (by omega) (fun z174 tz174 => ?_)
                                exact s_iret C X dX10_conditionFault_237 ⟨(Fr.tr (Fr.sV (Fr.tr (Fr.tr Fr.rf (Fr.mo kF (by decide) (by decide))) (Fr.mo h164.1 (by decide) (by decide))) (Or.inr (by decide))) (Fr.mo h169.1 (by decide) (by decide))), by omega, by omega, fun q => by omega⟩
                      · refine s_iload_n C dX10_conditionFault_167 rfl ?_
                        refine s_iconst C dX10_conditionFault_168 (by decide) (fun z175 tz175 => ?_)
                        refine s_icmp_le (tgt := 184) C dX10_conditionFault_169 (by decide) (fun q176 => ?_) (fun q176 => ?_)
                        · refine s_iload_n C dX10_conditionFault_184 rfl ?_
                          refine s_bipush C dX10_conditionFault_185 (by decide) (fun z177 tz177 => ?_)
                          refine s_icmp_ne (tgt := 228) C dX10_conditionFault_187 (by decide) (fun q178 => ?_) (fun q178 => ?_)
                          · refine s_iload_n C dX10_conditionFault_228 rfl ?_
                            exact s_iret C X dX10_conditionFault_229 ⟨(Fr.tr Fr.rf (Fr.mo kF (by decide) (by decide))), by omega, by omega, fun q => by omega⟩
                          · refine s_iload_n C dX10_conditionFault_190 rfl ?_
                            refine s_iconst C dX10_conditionFault_191 (by decide) (fun z179 tz179 => ?_)
                            refine s_icmp_le (tgt := 228) C dX10_conditionFault_192 (by decide) (fun q180 => ?_) (fun q180 => ?_)
                            · refine s_iload_n C dX10_conditionFault_228 rfl ?_
                              exact s_iret C X dX10_conditionFault_229 ⟨(Fr.tr Fr.rf (Fr.mo kF (by decide) (by decide))), by omega, by omega, fun q => by omega⟩
                            · refine s_aload_n C dX10_conditionFault_195 rfl ?_
                              refine s_callVI (st := []) C (c_X10_isOpen l ad τ o hd ho (by omega)) cv_X10_269 y71 rfl rfl rfl ⟨by decide, by decide⟩ (Nat.le_of_ble_eq_true rfl) dX10_conditionFault_196 ?_
                              intro r181 τ182 h183
                              obtain ⟨eh183, h183⟩ := h183; replace eh183 := eh183.symm; subst eh183
                              have mh183 := h183.2
                              refine s_if_eq (tgt := 228) C dX10_conditionFault_199 (by decide) (fun q184 => ?_) (fun q184 => ?_)
                              · refine s_iload_n C dX10_conditionFault_228 rfl ?_
                                exact s_iret C X dX10_conditionFault_229 ⟨(Fr.tr Fr.rf (Fr.mo kF (by decide) (by decide))), by omega, by omega, fun q => by omega⟩
                              · refine s_aload_n C dX10_conditionFault_202 rfl ?_
                                refine s_callVV (st := []) C (c_X10_testEnds l ad τ o hd ho (by omega)) cv_X10_266 y71 rfl rfl rfl ⟨by decide, by decide⟩ (Nat.le_of_ble_eq_true rfl) dX10_conditionFault_203 ?_
                                intro τ186 h187
                                have dτ186 : Int32.toInt (τ186.1 71 49) = (te o).length := h187.2
                                have pτ186 : Op (τ186.1 109) (te o) := by rw [h187.1.a 109 (by decide) (by decide)]; exact Op_te o ho
                                have qτ186 := te_len o
                                obtain ⟨r6, hr6⟩ := te_hd (mh183.mp (by omega))
                                have hl6 : 1 ≤ (te o).length := by rw [hr6]; simp
                                refine s_aload_n C dX10_conditionFault_206 rfl ?_
                                refine s_dup C dX10_conditionFault_207 rfl ?_
                                refine s_get (k := 49) (x := (τ186.1 71 49)) C y71 fw_X10_260 rfl rfl dX10_conditionFault_208 ?_
                                refine s_iconst C dX10_conditionFault_211 (by decide) (fun z188 tz188 => ?_)
                                refine s_isub C dX10_conditionFault_212 (by omega) (fun z189 tz189 => ?_)
                                refine s_put (k := 49) C y71 fw_X10_260 fp_9_49 rfl dX10_conditionFault_213 ?_
                                refine s_aload_n C dX10_conditionFault_216 rfl ?_
                                refine s_callVV (st := []) C (c_X10_testEnds l ad (sV τ186 71 49 z189) (te o).tail (by show Int32.toInt z189 = _; rw [List.length_tail]; omega) (Op_tail _ pτ186) (by rw [List.length_tail]; omega)) cv_X10_266 y71 rfl rfl rfl ⟨by decide, by decide⟩ (Nat.le_of_ble_eq_true rfl) dX10_conditionFault_217 ?_
                                intro τ191 h192
                                have dτ191 : Int32.toInt (τ191.1 71 49) = (te (te o).tail).length := h192.2
                                have pτ191 : Op (τ191.1 109) (te (te o).tail) := by rw [h192.1.a 109 (by decide) (by decide)]; exact Op_te _ (Op_tail _ pτ186)
                                have qτ191 := te_len (te o).tail
                                have qqτ191 : (te o).tail.length = (te o).length - 1 := List.length_tail
                                skip
                                refine s_iconst C dX10_conditionFault_220 (by decide) (fun z193 tz193 => ?_)
                                refine s_istore_n C dX10_conditionFault_221 (by decide) (Nat.le_of_ble_eq_true rfl) rfl ?_
                                show WP E ad 222 [some (.ref (ad 71)), some (.int z193), some (.int z), some (.int (τ.1 86 z.toNatClampNeg))] [] τ191
                                refine s_iinc C dX10_conditionFault_222 rfl (by decide) rfl (by decide) (by omega) (fun z194 tz194 => ?_)
                                show WP E ad 225 [some (.ref (ad 71)), some (.int z193), some (.int z194), some (.int (τ.1 86 z.toNatClampNeg))] [] τ191
                                refine s_goto (tgt := 230) C dX10_conditionFault_225 (by decide) ?_
                                refine s_iload_n C dX10_conditionFault_230 rfl ?_
                                refine s_if_ge (tgt := 238) C dX10_conditionFault_231 (by decide) (fun q195 => ?_) (fun q195 => ?_)
                                · refine s_goto (tgt := 9) C dX10_conditionFault_238 (by decide) ?_
                                  refine wp_le (lv' := [some (.ref (ad 71)), some (.int z193), some (.int z194), none]) ⟨rfl, ⟨rfl, ⟨rfl, trivial⟩⟩⟩ ?_
                                  have ek1 : z194.toInt.toNat = z.toInt.toNat + 1 := by omega
                                  exact ih τ191 (te (te o).tail) z193 z194 (Fr.tr (Fr.sV (Fr.tr (Fr.tr Fr.rf (Fr.mo kF (by decide) (by decide))) (Fr.mo h187.1 (by decide) (by decide))) (Or.inr (by decide))) (Fr.mo h192.1 (by decide) (by decide))) dτ191 pτ191 (by omega) (by omega) (by omega) (fun ⟨f, hf⟩ => hac ⟨f + 1, Or.inr ⟨by omega, Or.inr (Or.inr (Or.inr (Or.inr (Or.inr ⟨by omega, by omega, mh183.mp (by omega), (by rw [ek1, show z193.toInt.toNat = 3 by omega] at hf; exact hf)⟩))))⟩⟩) (by omega)
                                · refine s_iconst C dX10_conditionFault_234 (by decide) (fun z196 tz196 => ?_)
                                  refine s_iload_n C dX10_conditionFault_235 rfl ?_
                                  refine s_isub C dX10_conditionFault_236 (by omega) (fun z197 tz197 => ?_)
                                  exact s_iret C X dX10_conditionFault_237 ⟨(Fr.tr (Fr.sV (Fr.tr (Fr.tr Fr.rf (Fr.mo kF (by decide) (by decide))) (Fr.mo h187.1 (by decide) (by decide))) (Or.inr (by decide))) (Fr.mo h192.1 (by decide) (by decide))), by omega, by omega, fun q => by omega⟩
                        · refine s_aload_n C dX10_conditionFault_172 rfl ?_
                          refine s_callVV (st := []) C (c_X10_testEnds l ad τ o hd ho (by omega)) cv_X10_266 y71 rfl rfl rfl ⟨by decide, by decide⟩ (Nat.le_of_ble_eq_true rfl) dX10_conditionFault_173 ?_
                          intro τ199 h200
                          have dτ199 : Int32.toInt (τ199.1 71 49) = (te o).length := h200.2
                          have pτ199 : Op (τ199.1 109) (te o) := by rw [h200.1.a 109 (by decide) (by decide)]; exact Op_te o ho
                          have qτ199 := te_len o
                          skip
                          refine s_iconst C dX10_conditionFault_176 (by decide) (fun z201 tz201 => ?_)
                          refine s_istore_n C dX10_conditionFault_177 (by decide) (Nat.le_of_ble_eq_true rfl) rfl ?_
                          show WP E ad 178 [some (.ref (ad 71)), some (.int z201), some (.int z), some (.int (τ.1 86 z.toNatClampNeg))] [] τ199
                          refine s_iinc C dX10_conditionFault_178 rfl (by decide) rfl (by decide) (by omega) (fun z202 tz202 => ?_)
                          show WP E ad 181 [some (.ref (ad 71)), some (.int z201), some (.int z202), some (.int (τ.1 86 z.toNatClampNeg))] [] τ199
                          refine s_goto (tgt := 230) C dX10_conditionFault_181 (by decide) ?_
                          refine s_iload_n C dX10_conditionFault_230 rfl ?_
                          refine s_if_ge (tgt := 238) C dX10_conditionFault_231 (by decide) (fun q203 => ?_) (fun q203 => ?_)
                          · refine s_goto (tgt := 9) C dX10_conditionFault_238 (by decide) ?_
                            refine wp_le (lv' := [some (.ref (ad 71)), some (.int z201), some (.int z202), none]) ⟨rfl, ⟨rfl, ⟨rfl, trivial⟩⟩⟩ ?_
                            have ek1 : z202.toInt.toNat = z.toInt.toNat + 1 := by omega
                            exact ih τ199 (te o) z201 z202 (Fr.tr (Fr.tr Fr.rf (Fr.mo kF (by decide) (by decide))) (Fr.mo h200.1 (by decide) (by decide))) dτ199 pτ199 (by omega) (by omega) (by omega) (fun ⟨f, hf⟩ => hac ⟨f + 1, Or.inr ⟨by omega, Or.inr (Or.inr (Or.inr (Or.inr (Or.inl ⟨by omega, by omega, (by rw [ek1, show z201.toInt.toNat = 0 by omega] at hf; exact hf)⟩))))⟩⟩) (by omega)
                          · refine s_iconst C dX10_conditionFault_234 (by decide) (fun z204 tz204 => ?_)
                            refine s_iload_n C dX10_conditionFault_235 rfl ?_
                            refine s_isub C dX10_conditionFault_236 (by omega) (fun z205 tz205 => ?_)
                            exact s_iret C X dX10_conditionFault_237 ⟨(Fr.tr (Fr.tr Fr.rf (Fr.mo kF (by decide) (by decide))) (Fr.mo h200.1 (by decide) (by decide))), by omega, by omega, fun q => by omega⟩
                  · refine s_aload_n C dX10_conditionFault_142 rfl ?_
                    refine s_iload_n C dX10_conditionFault_143 rfl ?_
                    refine s_iconst C dX10_conditionFault_144 (by decide) (fun z206 tz206 => ?_)
                    refine s_iadd C dX10_conditionFault_145 (by omega) (fun z207 tz207 => ?_)
                    refine s_callVI (st := []) C (c_X10_behindUnit l ad τ z207 (by omega) (by omega) (by omega)) cv_X10_263 y71 rfl rfl rfl ⟨by decide, by decide⟩ (Nat.le_of_ble_eq_true rfl) dX10_conditionFault_146 ?_
                    intro r208 τ209 h210
                    obtain ⟨eh210, h210⟩ := h210; replace eh210 := eh210.symm; subst eh210
                    have uh210 := h210.2.2
                    rw [f0, f17, e86] at uh210
                    have vh210 : 0 ≤ Int32.toInt r208 → Int32.toInt r208 ≤ Int32.toInt (σ.1 71 17) := fun q => by have := un_le (uh210 q).2; omega
                    skip
                    refine s_istore_n C dX10_conditionFault_149 (by decide) (Nat.le_of_ble_eq_true rfl) rfl ?_
                    show WP E ad 150 [some (.ref (ad 71)), some (.int y), some (.int r208), some (.int (τ.1 86 z.toNatClampNeg))] [] τ
                    refine s_iconst C dX10_conditionFault_150 (by decide) (fun z211 tz211 => ?_)
                    refine s_istore_n C dX10_conditionFault_151 (by decide) (Nat.le_of_ble_eq_true rfl) rfl ?_
                    show WP E ad 152 [some (.ref (ad 71)), some (.int z211), some (.int r208), some (.int (τ.1 86 z.toNatClampNeg))] [] τ
                    refine s_goto (tgt := 230) C dX10_conditionFault_152 (by decide) ?_
                    refine s_iload_n C dX10_conditionFault_230 rfl ?_
                    refine s_if_ge (tgt := 238) C dX10_conditionFault_231 (by decide) (fun q212 => ?_) (fun q212 => ?_)
                    · refine s_goto (tgt := 9) C dX10_conditionFault_238 (by decide) ?_
                      refine wp_le (lv' := [some (.ref (ad 71)), some (.int z211), some (.int r208), none]) ⟨rfl, ⟨rfl, ⟨rfl, trivial⟩⟩⟩ ?_
                      have ez1 : z207.toInt.toNat = z.toInt.toNat + 1 := by omega
                      rw [ez1] at uh210
                      exact ih τ o z211 r208 (Fr.tr Fr.rf (Fr.mo kF (by decide) (by decide))) hd ho (by omega) (by omega) (by omega) (fun ⟨f, hf⟩ => hac ⟨f + 1, Or.inr ⟨by omega, Or.inr (Or.inr (Or.inr (Or.inl ⟨by omega, by omega, _, (uh210 (by omega)).2, (by rw [show z211.toInt.toNat = 2 by omega] at hf; exact hf)⟩)))⟩⟩) (by omega)
                    · refine s_iconst C dX10_conditionFault_234 (by decide) (fun z213 tz213 => ?_)
                      refine s_iload_n C dX10_conditionFault_235 rfl ?_
                      refine s_isub C dX10_conditionFault_236 (by omega) (fun z214 tz214 => ?_)
                      exact s_iret C X dX10_conditionFault_237 ⟨(Fr.tr Fr.rf (Fr.mo kF (by decide) (by decide))), by omega, by omega, fun q => by omega⟩
                · refine s_iload_n C dX10_conditionFault_131 rfl ?_
                  refine s_bipush C dX10_conditionFault_132 (by decide) (fun z215 tz215 => ?_)
                  refine s_icmp_ne (tgt := 155) C dX10_conditionFault_134 (by decide) (fun q216 => ?_) (fun q216 => ?_)
                  · refine s_iload_n C dX10_conditionFault_155 rfl ?_
                    refine s_bipush C dX10_conditionFault_156 (by decide) (fun z217 tz217 => ?_)
                    refine s_icmp_eq (tgt := 167) C dX10_conditionFault_158 (by decide) (fun q218 => ?_) (fun q218 => ?_)
                    · refine s_iload_n C dX10_conditionFault_167 rfl ?_
                      refine s_iconst C dX10_conditionFault_168 (by decide) (fun z219 tz219 => ?_)
                      refine s_icmp_le (tgt := 184) C dX10_conditionFault_169 (by decide) (fun q220 => ?_) (fun q220 => ?_)
                      · refine s_iload_n C dX10_conditionFault_184 rfl ?_
                        refine s_bipush C dX10_conditionFault_185 (by decide) (fun z221 tz221 => ?_)
                        refine s_icmp_ne (tgt := 228) C dX10_conditionFault_187 (by decide) (fun q222 => ?_) (fun q222 => ?_)
                        · refine s_iload_n C dX10_conditionFault_228 rfl ?_
                          exact s_iret C X dX10_conditionFault_229 ⟨(Fr.tr Fr.rf (Fr.mo kF (by decide) (by decide))), by omega, by omega, fun q => by omega⟩
                        · refine s_iload_n C dX10_conditionFault_190 rfl ?_
                          refine s_iconst C dX10_conditionFault_191 (by decide) (fun z223 tz223 => ?_)
                          refine s_icmp_le (tgt := 228) C dX10_conditionFault_192 (by decide) (fun q224 => ?_) (fun q224 => ?_)
                          · refine s_iload_n C dX10_conditionFault_228 rfl ?_
                            exact s_iret C X dX10_conditionFault_229 ⟨(Fr.tr Fr.rf (Fr.mo kF (by decide) (by decide))), by omega, by omega, fun q => by omega⟩
                          · refine s_aload_n C dX10_conditionFault_195 rfl ?_
                            refine s_callVI (st := []) C (c_X10_isOpen l ad τ o hd ho (by omega)) cv_X10_269 y71 rfl rfl rfl ⟨by decide, by decide⟩ (Nat.le_of_ble_eq_true rfl) dX10_conditionFault_196 ?_
                            intro r225 τ226 h227
                            obtain ⟨eh227, h227⟩ := h227; replace eh227 := eh227.symm; subst eh227
                            have mh227 := h227.2
                            refine s_if_eq (tgt := 228) C dX10_conditionFault_199 (by decide) (fun q228 => ?_) (fun q228 => ?_)
                            · refine s_iload_n C dX10_conditionFault_228 rfl ?_
                              exact s_iret C X dX10_conditionFault_229 ⟨(Fr.tr Fr.rf (Fr.mo kF (by decide) (by decide))), by omega, by omega, fun q => by omega⟩
                            · refine s_aload_n C dX10_conditionFault_202 rfl ?_
                              refine s_callVV (st := []) C (c_X10_testEnds l ad τ o hd ho (by omega)) cv_X10_266 y71 rfl rfl rfl ⟨by decide, by decide⟩ (Nat.le_of_ble_eq_true rfl) dX10_conditionFault_203 ?_
                              intro τ230 h231
                              have dτ230 : Int32.toInt (τ230.1 71 49) = (te o).length := h231.2
                              have pτ230 : Op (τ230.1 109) (te o) := by rw [h231.1.a 109 (by decide) (by decide)]; exact Op_te o ho
                              have qτ230 := te_len o
                              obtain ⟨r6, hr6⟩ := te_hd (mh227.mp (by omega))
                              have hl6 : 1 ≤ (te o).length := by rw [hr6]; simp
                              refine s_aload_n C dX10_conditionFault_206 rfl ?_
                              refine s_dup C dX10_conditionFault_207 rfl ?_
                              refine s_get (k := 49) (x := (τ230.1 71 49)) C y71 fw_X10_260 rfl rfl dX10_conditionFault_208 ?_
                              refine s_iconst C dX10_conditionFault_211 (by decide) (fun z232 tz232 => ?_)
                              refine s_isub C dX10_conditionFault_212 (by omega) (fun z233 tz233 => ?_)
                              refine s_put (k := 49) C y71 fw_X10_260 fp_9_49 rfl dX10_conditionFault_213 ?_
                              refine s_aload_n C dX10_conditionFault_216 rfl ?_
                              refine s_callVV (st := []) C (c_X10_testEnds l ad (sV τ230 71 49 z233) (te o).tail (by show Int32.toInt z233 = _; rw [List.length_tail]; omega) (Op_tail _ pτ230) (by rw [List.length_tail]; omega)) cv_X10_266 y71 rfl rfl rfl ⟨by decide, by decide⟩ (Nat.le_of_ble_eq_true rfl) dX10_conditionFault_217 ?_
                              intro τ235 h236
                              have dτ235 : Int32.toInt (τ235.1 71 49) = (te (te o).tail).length := h236.2
                              have pτ235 : Op (τ235.1 109) (te (te o).tail) := by rw [h236.1.a 109 (by decide) (by decide)]; exact Op_te _ (Op_tail _ pτ230)
                              have qτ235 := te_len (te o).tail
                              have qqτ235 : (te o).tail.length = (te o).length - 1 := List.length_tail
                              skip
                              refine s_iconst C dX10_conditionFault_220 (by decide) (fun z237 tz237 => ?_)
                              refine s_istore_n C dX10_conditionFault_221 (by decide) (Nat.le_of_ble_eq_true rfl) rfl ?_
                              show WP E ad 222 [some (.ref (ad 71)), some (.int z237), some (.int z), some (.int (τ.1 86 z.toNatClampNeg))] [] τ235
                              refine s_iinc C dX10_conditionFault_222 rfl (by decide) rfl (by decide) (by omega) (fun z238 tz238 => ?_)
                              show WP E ad 225 [some (.ref (ad 71)), some (.int z237), some (.int z238), some (.int (τ.1 86 z.toNatClampNeg))] [] τ235
                              refine s_goto (tgt := 230) C dX10_conditionFault_225 (by decide) ?_
                              refine s_iload_n C dX10_conditionFault_230 rfl ?_
                              refine s_if_ge (tgt := 238) C dX10_conditionFault_231 (by decide) (fun q239 => ?_) (fun q239 => ?_)
                              · refine s_goto (tgt := 9) C dX10_conditionFault_238 (by decide) ?_
                                refine wp_le (lv' := [some (.ref (ad 71)), some (.int z237), some (.int z238), none]) ⟨rfl, ⟨rfl, ⟨rfl, trivial⟩⟩⟩ ?_
                                have ek1 : z238.toInt.toNat = z.toInt.toNat + 1 := by omega
                                exact ih τ235 (te (te o).tail) z237 z238 (Fr.tr (Fr.sV (Fr.tr (Fr.tr Fr.rf (Fr.mo kF (by decide) (by decide))) (Fr.mo h231.1 (by decide) (by decide))) (Or.inr (by decide))) (Fr.mo h236.1 (by decide) (by decide))) dτ235 pτ235 (by omega) (by omega) (by omega) (fun ⟨f, hf⟩ => hac ⟨f + 1, Or.inr ⟨by omega, Or.inr (Or.inr (Or.inr (Or.inr (Or.inr ⟨by omega, by omega, mh227.mp (by omega), (by rw [ek1, show z237.toInt.toNat = 3 by omega] at hf; exact hf)⟩))))⟩⟩) (by omega)
                              · refine s_iconst C dX10_conditionFault_234 (by decide) (fun z240 tz240 => ?_)
                                refine s_iload_n C dX10_conditionFault_235 rfl ?_
                                refine s_isub C dX10_conditionFault_236 (by omega) (fun z241 tz241 => ?_)
                                exact s_iret C X dX10_conditionFault_237 ⟨(Fr.tr (Fr.sV (Fr.tr (Fr.tr Fr.rf (Fr.mo kF (by decide) (by decide))) (Fr.mo h231.1 (by decide) (by decide))) (Or.inr (by decide))) (Fr.mo h236.1 (by decide) (by decide))), by omega, by omega, fun q => by omega⟩
                      · refine s_aload_n C dX10_conditionFault_172 rfl ?_
                        refine s_callVV (st := []) C (c_X10_testEnds l ad τ o hd ho (by omega)) cv_X10_266 y71 rfl rfl rfl ⟨by decide, by decide⟩ (Nat.le_of_ble_eq_true rfl) dX10_conditionFault_173 ?_
                        intro τ243 h244
                        have dτ243 : Int32.toInt (τ243.1 71 49) = (te o).length := h244.2
                        have pτ243 : Op (τ243.1 109) (te o) := by rw [h244.1.a 109 (by decide) (by decide)]; exact Op_te o ho
                        have qτ243 := te_len o
                        skip
                        refine s_iconst C dX10_conditionFault_176 (by decide) (fun z245 tz245 => ?_)
                        refine s_istore_n C dX10_conditionFault_177 (by decide) (Nat.le_of_ble_eq_true rfl) rfl ?_
                        show WP E ad 178 [some (.ref (ad 71)), some (.int z245), some (.int z), some (.int (τ.1 86 z.toNatClampNeg))] [] τ243
                        refine s_iinc C dX10_conditionFault_178 rfl (by decide) rfl (by decide) (by omega) (fun z246 tz246 => ?_)
                        show WP E ad 181 [some (.ref (ad 71)), some (.int z245), some (.int z246), some (.int (τ.1 86 z.toNatClampNeg))] [] τ243
                        refine s_goto (tgt := 230) C dX10_conditionFault_181 (by decide) ?_
                        refine s_iload_n C dX10_conditionFault_230 rfl ?_
                        refine s_if_ge (tgt := 238) C dX10_conditionFault_231 (by decide) (fun q247 => ?_) (fun q247 => ?_)
                        · refine s_goto (tgt := 9) C dX10_conditionFault_238 (by decide) ?_
                          refine wp_le (lv' := [some (.ref (ad 71)), some (.int z245), some (.int z246), none]) ⟨rfl, ⟨rfl, ⟨rfl, trivial⟩⟩⟩ ?_
                          have ek1 : z246.toInt.toNat = z.toInt.toNat + 1 := by omega
                          exact ih τ243 (te o) z245 z246 (Fr.tr (Fr.tr Fr.rf (Fr.mo kF (by decide) (by decide))) (Fr.mo h244.1 (by decide) (by decide))) dτ243 pτ243 (by omega) (by omega) (by omega) (fun ⟨f, hf⟩ => hac ⟨f + 1, Or.inr ⟨by omega, Or.inr (Or.inr (Or.inr (Or.inr (Or.inl ⟨by omega, by omega, (by rw [ek1, show z245.toInt.toNat = 0 by omega] at hf; exact hf)⟩))))⟩⟩) (by omega)
                        · refine s_iconst C dX10_conditionFault_234 (by decide) (fun z248 tz248 => ?_)
                          refine s_iload_n C dX10_conditionFault_235 rfl ?_
                          refine s_isub C dX10_conditionFault_236 (by omega) (fun z249 tz249 => ?_)
                          exact s_iret C X dX10_conditionFault_237 ⟨(Fr.tr (Fr.tr Fr.rf (Fr.mo kF (by decide) (by decide))) (Fr.mo h244.1 (by decide) (by decide))), by omega, by omega, fun q => by omega⟩
                    · refine s_iload_n C dX10_conditionFault_161 rfl ?_
                      refine s_bipush C dX10_conditionFault_162 (by decide) (fun z250 tz250 => ?_)
                      refine s_icmp_ne (tgt := 184) C dX10_conditionFault_164 (by decide) (fun q251 => ?_) (fun q251 => ?_)
                      · refine s_iload_n C dX10_conditionFault_184 rfl ?_
                        refine s_bipush C dX10_conditionFault_185 (by decide) (fun z252 tz252 => ?_)
                        refine s_icmp_ne (tgt := 228) C dX10_conditionFault_187 (by decide) (fun q253 => ?_) (fun q253 => ?_)
                        · refine s_iload_n C dX10_conditionFault_228 rfl ?_
                          exact s_iret C X dX10_conditionFault_229 ⟨(Fr.tr Fr.rf (Fr.mo kF (by decide) (by decide))), by omega, by omega, fun q => by omega⟩
                        · refine s_iload_n C dX10_conditionFault_190 rfl ?_
                          refine s_iconst C dX10_conditionFault_191 (by decide) (fun z254 tz254 => ?_)
                          refine s_icmp_le (tgt := 228) C dX10_conditionFault_192 (by decide) (fun q255 => ?_) (fun q255 => ?_)
                          · refine s_iload_n C dX10_conditionFault_228 rfl ?_
                            exact s_iret C X dX10_conditionFault_229 ⟨(Fr.tr Fr.rf (Fr.mo kF (by decide) (by decide))), by omega, by omega, fun q => by omega⟩
                          · refine s_aload_n C dX10_conditionFault_195 rfl ?_
                            refine s_callVI (st := []) C (c_X10_isOpen l ad τ o hd ho (by omega)) cv_X10_269 y71 rfl rfl rfl ⟨by decide, by decide⟩ (Nat.le_of_ble_eq_true rfl) dX10_conditionFault_196 ?_
                            intro r256 τ257 h258
                            obtain ⟨eh258, h258⟩ := h258; replace eh258 := eh258.symm; subst eh258
                            have mh258 := h258.2
                            refine s_if_eq (tgt := 228) C dX10_conditionFault_199 (by decide) (fun q259 => ?_) (fun q259 => ?_)
                            · refine s_iload_n C dX10_conditionFault_228 rfl ?_
                              exact s_iret C X dX10_conditionFault_229 ⟨(Fr.tr Fr.rf (Fr.mo kF (by decide) (by decide))), by omega, by omega, fun q => by omega⟩
                            · refine s_aload_n C dX10_conditionFault_202 rfl ?_
                              refine s_callVV (st := []) C (c_X10_testEnds l ad τ o hd ho (by omega)) cv_X10_266 y71 rfl rfl rfl ⟨by decide, by decide⟩ (Nat.le_of_ble_eq_true rfl) dX10_conditionFault_203 ?_
                              intro τ261 h262
                              have dτ261 : Int32.toInt (τ261.1 71 49) = (te o).length := h262.2
                              have pτ261 : Op (τ261.1 109) (te o) := by rw [h262.1.a 109 (by decide) (by decide)]; exact Op_te o ho
                              have qτ261 := te_len o
                              obtain ⟨r6, hr6⟩ := te_hd (mh258.mp (by omega))
                              have hl6 : 1 ≤ (te o).length := by rw [hr6]; simp
                              refine s_aload_n C dX10_conditionFault_206 rfl ?_
                              refine s_dup C dX10_conditionFault_207 rfl ?_
                              refine s_get (k := 49) (x := (τ261.1 71 49)) C y71 fw_X10_260 rfl rfl dX10_conditionFault_208 ?_
                              refine s_iconst C dX10_conditionFault_211 (by decide) (fun z263 tz263 => ?_)
                              refine s_isub C dX10_conditionFault_212 (by omega) (fun z264 tz264 => ?_)
                              refine s_put (k := 49) C y71 fw_X10_260 fp_9_49 rfl dX10_conditionFault_213 ?_
                              refine s_aload_n C dX10_conditionFault_216 rfl ?_
                              refine s_callVV (st := []) C (c_X10_testEnds l ad (sV τ261 71 49 z264) (te o).tail (by show Int32.toInt z264 = _; rw [List.length_tail]; omega) (Op_tail _ pτ261) (by rw [List.length_tail]; omega)) cv_X10_266 y71 rfl rfl rfl ⟨by decide, by decide⟩ (Nat.le_of_ble_eq_true rfl) dX10_conditionFault_217 ?_
                              intro τ266 h267
                              have dτ266 : Int32.toInt (τ266.1 71 49) = (te (te o).tail).length := h267.2
                              have pτ266 : Op (τ266.1 109) (te (te o).tail) := by rw [h267.1.a 109 (by decide) (by decide)]; exact Op_te _ (Op_tail _ pτ261)
                              have qτ266 := te_len (te o).tail
                              have qqτ266 : (te o).tail.length = (te o).length - 1 := List.length_tail
                              skip
                              refine s_iconst C dX10_conditionFault_220 (by decide) (fun z268 tz268 => ?_)
                              refine s_istore_n C dX10_conditionFault_221 (by decide) (Nat.le_of_ble_eq_true rfl) rfl ?_
                              show WP E ad 222 [some (.ref (ad 71)), some (.int z268), some (.int z), some (.int (τ.1 86 z.toNatClampNeg))] [] τ266
                              refine s_iinc C dX10_conditionFault_222 rfl (by decide) rfl (by decide) (by omega) (fun z269 tz269 => ?_)
                              show WP E ad 225 [some (.ref (ad 71)), some (.int z268), some (.int z269), some (.int (τ.1 86 z.toNatClampNeg))] [] τ266
                              refine s_goto (tgt := 230) C dX10_conditionFault_225 (by decide) ?_
                              refine s_iload_n C dX10_conditionFault_230 rfl ?_
                              refine s_if_ge (tgt := 238) C dX10_conditionFault_231 (by decide) (fun q270 => ?_) (fun q270 => ?_)
                              · refine s_goto (tgt := 9) C dX10_conditionFault_238 (by decide) ?_
                                refine wp_le (lv' := [some (.ref (ad 71)), some (.int z268), some (.int z269), none]) ⟨rfl, ⟨rfl, ⟨rfl, trivial⟩⟩⟩ ?_
                                have ek1 : z269.toInt.toNat = z.toInt.toNat + 1 := by omega
                                exact ih τ266 (te (te o).tail) z268 z269 (Fr.tr (Fr.sV (Fr.tr (Fr.tr Fr.rf (Fr.mo kF (by decide) (by decide))) (Fr.mo h262.1 (by decide) (by decide))) (Or.inr (by decide))) (Fr.mo h267.1 (by decide) (by decide))) dτ266 pτ266 (by omega) (by omega) (by omega) (fun ⟨f, hf⟩ => hac ⟨f + 1, Or.inr ⟨by omega, Or.inr (Or.inr (Or.inr (Or.inr (Or.inr ⟨by omega, by omega, mh258.mp (by omega), (by rw [ek1, show z268.toInt.toNat = 3 by omega] at hf; exact hf)⟩))))⟩⟩) (by omega)
                              · refine s_iconst C dX10_conditionFault_234 (by decide) (fun z271 tz271 => ?_)
                                refine s_iload_n C dX10_conditionFault_235 rfl ?_
                                refine s_isub C dX10_conditionFault_236 (by omega) (fun z272 tz272 => ?_)
                                exact s_iret C X dX10_conditionFault_237 ⟨(Fr.tr (Fr.sV (Fr.tr (Fr.tr Fr.rf (Fr.mo kF (by decide) (by decide))) (Fr.mo h262.1 (by decide) (by decide))) (Or.inr (by decide))) (Fr.mo h267.1 (by decide) (by decide))), by omega, by omega, fun q => by omega⟩
                      · refine s_iload_n C dX10_conditionFault_167 rfl ?_
                        refine s_iconst C dX10_conditionFault_168 (by decide) (fun z273 tz273 => ?_)
                        refine s_icmp_le (tgt := 184) C dX10_conditionFault_169 (by decide) (fun q274 => ?_) (fun q274 => ?_)
                        · refine s_iload_n C dX10_conditionFault_184 rfl ?_
                          refine s_bipush C dX10_conditionFault_185 (by decide) (fun z275 tz275 => ?_)
                          refine s_icmp_ne (tgt := 228) C dX10_conditionFault_187 (by decide) (fun q276 => ?_) (fun q276 => ?_)
                          · refine s_iload_n C dX10_conditionFault_228 rfl ?_
                            exact s_iret C X dX10_conditionFault_229 ⟨(Fr.tr Fr.rf (Fr.mo kF (by decide) (by decide))), by omega, by omega, fun q => by omega⟩
                          · refine s_iload_n C dX10_conditionFault_190 rfl ?_
                            refine s_iconst C dX10_conditionFault_191 (by decide) (fun z277 tz277 => ?_)
                            refine s_icmp_le (tgt := 228) C dX10_conditionFault_192 (by decide) (fun q278 => ?_) (fun q278 => ?_)
                            · refine s_iload_n C dX10_conditionFault_228 rfl ?_
                              exact s_iret C X dX10_conditionFault_229 ⟨(Fr.tr Fr.rf (Fr.mo kF (by decide) (by decide))), by omega, by omega, fun q => by omega⟩
                            · refine s_aload_n C dX10_conditionFault_195 rfl ?_
                              refine s_callVI (st := []) C (c_X10_isOpen l ad τ o hd ho (by omega)) cv_X10_269 y71 rfl rfl rfl ⟨by decide, by decide⟩ (Nat.le_of_ble_eq_true rfl) dX10_conditionFault_196 ?_
                              intro r279 τ280 h281
                              obtain ⟨eh281, h281⟩ := h281; replace eh281 := eh281.symm; subst eh281
                              have mh281 := h281.2
                              refine s_if_eq (tgt := 228) C dX10_conditionFault_199 (by decide) (fun q282 => ?_) (fun q282 => ?_)
                              · refine s_iload_n C dX10_conditionFault_228 rfl ?_
                                exact s_iret C X dX10_conditionFault_229 ⟨(Fr.tr Fr.rf (Fr.mo kF (by decide) (by decide))), by omega, by omega, fun q => by omega⟩
                              · refine s_aload_n C dX10_conditionFault_202 rfl ?_
                                refine s_callVV (st := []) C (c_X10_testEnds l ad τ o hd ho (by omega)) cv_X10_266 y71 rfl rfl rfl ⟨by decide, by decide⟩ (Nat.le_of_ble_eq_true rfl) dX10_conditionFault_203 ?_
                                intro τ284 h285
                                have dτ284 : Int32.toInt (τ284.1 71 49) = (te o).length := h285.2
                                have pτ284 : Op (τ284.1 109) (te o) := by rw [h285.1.a 109 (by decide) (by decide)]; exact Op_te o ho
                                have qτ284 := te_len o
                                obtain ⟨r6, hr6⟩ := te_hd (mh281.mp (by omega))
                                have hl6 : 1 ≤ (te o).length := by rw [hr6]; simp
                                refine s_aload_n C dX10_conditionFault_206 rfl ?_
                                refine s_dup C dX10_conditionFault_207 rfl ?_
                                refine s_get (k := 49) (x := (τ284.1 71 49)) C y71 fw_X10_260 rfl rfl dX10_conditionFault_208 ?_
                                refine s_iconst C dX10_conditionFault_211 (by decide) (fun z286 tz286 => ?_)
                                refine s_isub C dX10_conditionFault_212 (by omega) (fun z287 tz287 => ?_)
                                refine s_put (k := 49) C y71 fw_X10_260 fp_9_49 rfl dX10_conditionFault_213 ?_
                                refine s_aload_n C dX10_conditionFault_216 rfl ?_
                                refine s_callVV (st := []) C (c_X10_testEnds l ad (sV τ284 71 49 z287) (te o).tail (by show Int32.toInt z287 = _; rw [List.length_tail]; omega) (Op_tail _ pτ284) (by rw [List.length_tail]; omega)) cv_X10_266 y71 rfl rfl rfl ⟨by decide, by decide⟩ (Nat.le_of_ble_eq_true rfl) dX10_conditionFault_217 ?_
                                intro τ289 h290
                                have dτ289 : Int32.toInt (τ289.1 71 49) = (te (te o).tail).length := h290.2
                                have pτ289 : Op (τ289.1 109) (te (te o).tail) := by rw [h290.1.a 109 (by decide) (by decide)]; exact Op_te _ (Op_tail _ pτ284)
                                have qτ289 := te_len (te o).tail
                                have qqτ289 : (te o).tail.length = (te o).length - 1 := List.length_tail
                                skip
                                refine s_iconst C dX10_conditionFault_220 (by decide) (fun z291 tz291 => ?_)
                                refine s_istore_n C dX10_conditionFault_221 (by decide) (Nat.le_of_ble_eq_true rfl) rfl ?_
                                show WP E ad 222 [some (.ref (ad 71)), some (.int z291), some (.int z), some (.int (τ.1 86 z.toNatClampNeg))] [] τ289
                                refine s_iinc C dX10_conditionFault_222 rfl (by decide) rfl (by decide) (by omega) (fun z292 tz292 => ?_)
                                show WP E ad 225 [some (.ref (ad 71)), some (.int z291), some (.int z292), some (.int (τ.1 86 z.toNatClampNeg))] [] τ289
                                refine s_goto (tgt := 230) C dX10_conditionFault_225 (by decide) ?_
                                refine s_iload_n C dX10_conditionFault_230 rfl ?_
                                refine s_if_ge (tgt := 238) C dX10_conditionFault_231 (by decide) (fun q293 => ?_) (fun q293 => ?_)
                                · refine s_goto (tgt := 9) C dX10_conditionFault_238 (by decide) ?_
                                  refine wp_le (lv' := [some (.ref (ad 71)), some (.int z291), some (.int z292), none]) ⟨rfl, ⟨rfl, ⟨rfl, trivial⟩⟩⟩ ?_
                                  have ek1 : z292.toInt.toNat = z.toInt.toNat + 1 := by omega
                                  exact ih τ289 (te (te o).tail) z291 z292 (Fr.tr (Fr.sV (Fr.tr (Fr.tr Fr.rf (Fr.mo kF (by decide) (by decide))) (Fr.mo h285.1 (by decide) (by decide))) (Or.inr (by decide))) (Fr.mo h290.1 (by decide) (by decide))) dτ289 pτ289 (by omega) (by omega) (by omega) (fun ⟨f, hf⟩ => hac ⟨f + 1, Or.inr ⟨by omega, Or.inr (Or.inr (Or.inr (Or.inr (Or.inr ⟨by omega, by omega, mh281.mp (by omega), (by rw [ek1, show z291.toInt.toNat = 3 by omega] at hf; exact hf)⟩))))⟩⟩) (by omega)
                                · refine s_iconst C dX10_conditionFault_234 (by decide) (fun z294 tz294 => ?_)
                                  refine s_iload_n C dX10_conditionFault_235 rfl ?_
                                  refine s_isub C dX10_conditionFault_236 (by omega) (fun z295 tz295 => ?_)
                                  exact s_iret C X dX10_conditionFault_237 ⟨(Fr.tr (Fr.sV (Fr.tr (Fr.tr Fr.rf (Fr.mo kF (by decide) (by decide))) (Fr.mo h285.1 (by decide) (by decide))) (Or.inr (by decide))) (Fr.mo h290.1 (by decide) (by decide))), by omega, by omega, fun q => by omega⟩
                        · refine s_aload_n C dX10_conditionFault_172 rfl ?_
                          refine s_callVV (st := []) C (c_X10_testEnds l ad τ o hd ho (by omega)) cv_X10_266 y71 rfl rfl rfl ⟨by decide, by decide⟩ (Nat.le_of_ble_eq_true rfl) dX10_conditionFault_173 ?_
                          intro τ297 h298
                          have dτ297 : Int32.toInt (τ297.1 71 49) = (te o).length := h298.2
                          have pτ297 : Op (τ297.1 109) (te o) := by rw [h298.1.a 109 (by decide) (by decide)]; exact Op_te o ho
                          have qτ297 := te_len o
                          skip
                          refine s_iconst C dX10_conditionFault_176 (by decide) (fun z299 tz299 => ?_)
                          refine s_istore_n C dX10_conditionFault_177 (by decide) (Nat.le_of_ble_eq_true rfl) rfl ?_
                          show WP E ad 178 [some (.ref (ad 71)), some (.int z299), some (.int z), some (.int (τ.1 86 z.toNatClampNeg))] [] τ297
                          refine s_iinc C dX10_conditionFault_178 rfl (by decide) rfl (by decide) (by omega) (fun z300 tz300 => ?_)
                          show WP E ad 181 [some (.ref (ad 71)), some (.int z299), some (.int z300), some (.int (τ.1 86 z.toNatClampNeg))] [] τ297
                          refine s_goto (tgt := 230) C dX10_conditionFault_181 (by decide) ?_
                          refine s_iload_n C dX10_conditionFault_230 rfl ?_
                          refine s_if_ge (tgt := 238) C dX10_conditionFault_231 (by decide) (fun q301 => ?_) (fun q301 => ?_)
                          · refine s_goto (tgt := 9) C dX10_conditionFault_238 (by decide) ?_
                            refine wp_le (lv' := [some (.ref (ad 71)), some (.int z299), some (.int z300), none]) ⟨rfl, ⟨rfl, ⟨rfl, trivial⟩⟩⟩ ?_
                            have ek1 : z300.toInt.toNat = z.toInt.toNat + 1 := by omega
                            exact ih τ297 (te o) z299 z300 (Fr.tr (Fr.tr Fr.rf (Fr.mo kF (by decide) (by decide))) (Fr.mo h298.1 (by decide) (by decide))) dτ297 pτ297 (by omega) (by omega) (by omega) (fun ⟨f, hf⟩ => hac ⟨f + 1, Or.inr ⟨by omega, Or.inr (Or.inr (Or.inr (Or.inr (Or.inl ⟨by omega, by omega, (by rw [ek1, show z299.toInt.toNat = 0 by omega] at hf; exact hf)⟩))))⟩⟩) (by omega)
                          · refine s_iconst C dX10_conditionFault_234 (by decide) (fun z302 tz302 => ?_)
                            refine s_iload_n C dX10_conditionFault_235 rfl ?_
                            refine s_isub C dX10_conditionFault_236 (by omega) (fun z303 tz303 => ?_)
                            exact s_iret C X dX10_conditionFault_237 ⟨(Fr.tr (Fr.tr Fr.rf (Fr.mo kF (by decide) (by decide))) (Fr.mo h298.1 (by decide) (by decide))), by omega, by omega, fun q => by omega⟩
                  · refine s_iload_n C dX10_conditionFault_137 rfl ?_
                    refine s_iconst C dX10_conditionFault_138 (by decide) (fun z304 tz304 => ?_)
                    refine s_icmp_ne (tgt := 155) C dX10_conditionFault_139 (by decide) (fun q305 => ?_) (fun q305 => ?_)
                    · refine s_iload_n C dX10_conditionFault_155 rfl ?_
                      refine s_bipush C dX10_conditionFault_156 (by decide) (fun z306 tz306 => ?_)
                      refine s_icmp_eq (tgt := 167) C dX10_conditionFault_158 (by decide) (fun q307 => ?_) (fun q307 => ?_)
                      · refine s_iload_n C dX10_conditionFault_167 rfl ?_
                        refine s_iconst C dX10_conditionFault_168 (by decide) (fun z308 tz308 => ?_)
                        refine s_icmp_le (tgt := 184) C dX10_conditionFault_169 (by decide) (fun q309 => ?_) (fun q309 => ?_)
                        · refine s_iload_n C dX10_conditionFault_184 rfl ?_
                          refine s_bipush C dX10_conditionFault_185 (by decide) (fun z310 tz310 => ?_)
                          refine s_icmp_ne (tgt := 228) C dX10_conditionFault_187 (by decide) (fun q311 => ?_) (fun q311 => ?_)
                          · refine s_iload_n C dX10_conditionFault_228 rfl ?_
                            exact s_iret C X dX10_conditionFault_229 ⟨(Fr.tr Fr.rf (Fr.mo kF (by decide) (by decide))), by omega, by omega, fun q => by omega⟩
                          · refine s_iload_n C dX10_conditionFault_190 rfl ?_
                            refine s_iconst C dX10_conditionFault_191 (by decide) (fun z312 tz312 => ?_)
                            refine s_icmp_le (tgt := 228) C dX10_conditionFault_192 (by decide) (fun q313 => ?_) (fun q313 => ?_)
                            · refine s_iload_n C dX10_conditionFault_228 rfl ?_
                              exact s_iret C X dX10_conditionFault_229 ⟨(Fr.tr Fr.rf (Fr.mo kF (by decide) (by decide))), by omega, by omega, fun q => by omega⟩
                            · refine s_aload_n C dX10_conditionFault_195 rfl ?_
                              refine s_callVI (st := []) C (c_X10_isOpen l ad τ o hd ho (by omega)) cv_X10_269 y71 rfl rfl rfl ⟨by decide, by decide⟩ (Nat.le_of_ble_eq_true rfl) dX10_conditionFault_196 ?_
                              intro r314 τ315 h316
                              obtain ⟨eh316, h316⟩ := h316; replace eh316 := eh316.symm; subst eh316
                              have mh316 := h316.2
                              refine s_if_eq (tgt := 228) C dX10_conditionFault_199 (by decide) (fun q317 => ?_) (fun q317 => ?_)
                              · refine s_iload_n C dX10_conditionFault_228 rfl ?_
                                exact s_iret C X dX10_conditionFault_229 ⟨(Fr.tr Fr.rf (Fr.mo kF (by decide) (by decide))), by omega, by omega, fun q => by omega⟩
                              · refine s_aload_n C dX10_conditionFault_202 rfl ?_
                                refine s_callVV (st := []) C (c_X10_testEnds l ad τ o hd ho (by omega)) cv_X10_266 y71 rfl rfl rfl ⟨by decide, by decide⟩ (Nat.le_of_ble_eq_true rfl) dX10_conditionFault_203 ?_
                                intro τ319 h320
                                have dτ319 : Int32.toInt (τ319.1 71 49) = (te o).length := h320.2
                                have pτ319 : Op (τ319.1 109) (te o) := by rw [h320.1.a 109 (by decide) (by decide)]; exact Op_te o ho
                                have qτ319 := te_len o
                                obtain ⟨r6, hr6⟩ := te_hd (mh316.mp (by omega))
                                have hl6 : 1 ≤ (te o).length := by rw [hr6]; simp
                                refine s_aload_n C dX10_conditionFault_206 rfl ?_
                                refine s_dup C dX10_conditionFault_207 rfl ?_
                                refine s_get (k := 49) (x := (τ319.1 71 49)) C y71 fw_X10_260 rfl rfl dX10_conditionFault_208 ?_
                                refine s_iconst C dX10_conditionFault_211 (by decide) (fun z321 tz321 => ?_)
                                refine s_isub C dX10_conditionFault_212 (by omega) (fun z322 tz322 => ?_)
                                refine s_put (k := 49) C y71 fw_X10_260 fp_9_49 rfl dX10_conditionFault_213 ?_
                                refine s_aload_n C dX10_conditionFault_216 rfl ?_
                                refine s_callVV (st := []) C (c_X10_testEnds l ad (sV τ319 71 49 z322) (te o).tail (by show Int32.toInt z322 = _; rw [List.length_tail]; omega) (Op_tail _ pτ319) (by rw [List.length_tail]; omega)) cv_X10_266 y71 rfl rfl rfl ⟨by decide, by decide⟩ (Nat.le_of_ble_eq_true rfl) dX10_conditionFault_217 ?_
                                intro τ324 h325
                                have dτ324 : Int32.toInt (τ324.1 71 49) = (te (te o).tail).length := h325.2
                                have pτ324 : Op (τ324.1 109) (te (te o).tail) := by rw [h325.1.a 109 (by decide) (by decide)]; exact Op_te _ (Op_tail _ pτ319)
                                have qτ324 := te_len (te o).tail
                                have qqτ324 : (te o).tail.length = (te o).length - 1 := List.length_tail
                                skip
                                refine s_iconst C dX10_conditionFault_220 (by decide) (fun z326 tz326 => ?_)
                                refine s_istore_n C dX10_conditionFault_221 (by decide) (Nat.le_of_ble_eq_true rfl) rfl ?_
                                show WP E ad 222 [some (.ref (ad 71)), some (.int z326), some (.int z), some (.int (τ.1 86 z.toNatClampNeg))] [] τ324
                                refine s_iinc C dX10_conditionFault_222 rfl (by decide) rfl (by decide) (by omega) (fun z327 tz327 => ?_)
                                show WP E ad 225 [some (.ref (ad 71)), some (.int z326), some (.int z327), some (.int (τ.1 86 z.toNatClampNeg))] [] τ324
                                refine s_goto (tgt := 230) C dX10_conditionFault_225 (by decide) ?_
                                refine s_iload_n C dX10_conditionFault_230 rfl ?_
                                refine s_if_ge (tgt := 238) C dX10_conditionFault_231 (by decide) (fun q328 => ?_) (fun q328 => ?_)
                                · refine s_goto (tgt := 9) C dX10_conditionFault_238 (by decide) ?_
                                  refine wp_le (lv' := [some (.ref (ad 71)), some (.int z326), some (.int z327), none]) ⟨rfl, ⟨rfl, ⟨rfl, trivial⟩⟩⟩ ?_
                                  have ek1 : z327.toInt.toNat = z.toInt.toNat + 1 := by omega
                                  exact ih τ324 (te (te o).tail) z326 z327 (Fr.tr (Fr.sV (Fr.tr (Fr.tr Fr.rf (Fr.mo kF (by decide) (by decide))) (Fr.mo h320.1 (by decide) (by decide))) (Or.inr (by decide))) (Fr.mo h325.1 (by decide) (by decide))) dτ324 pτ324 (by omega) (by omega) (by omega) (fun ⟨f, hf⟩ => hac ⟨f + 1, Or.inr ⟨by omega, Or.inr (Or.inr (Or.inr (Or.inr (Or.inr ⟨by omega, by omega, mh316.mp (by omega), (by rw [ek1, show z326.toInt.toNat = 3 by omega] at hf; exact hf)⟩))))⟩⟩) (by omega)
                                · refine s_iconst C dX10_conditionFault_234 (by decide) (fun z329 tz329 => ?_)
                                  refine s_iload_n C dX10_conditionFault_235 rfl ?_
                                  refine s_isub C dX10_conditionFault_236 (by omega) (fun z330 tz330 => ?_)
                                  exact s_iret C X dX10_conditionFault_237 ⟨(Fr.tr (Fr.sV (Fr.tr (Fr.tr Fr.rf (Fr.mo kF (by decide) (by decide))) (Fr.mo h320.1 (by decide) (by decide))) (Or.inr (by decide))) (Fr.mo h325.1 (by decide) (by decide))), by omega, by omega, fun q => by omega⟩
                        · refine s_aload_n C dX10_conditionFault_172 rfl ?_
                          refine s_callVV (st := []) C (c_X10_testEnds l ad τ o hd ho (by omega)) cv_X10_266 y71 rfl rfl rfl ⟨by decide, by decide⟩ (Nat.le_of_ble_eq_true rfl) dX10_conditionFault_173 ?_
                          intro τ332 h333
                          have dτ332 : Int32.toInt (τ332.1 71 49) = (te o).length := h333.2
                          have pτ332 : Op (τ332.1 109) (te o) := by rw [h333.1.a 109 (by decide) (by decide)]; exact Op_te o ho
                          have qτ332 := te_len o
                          skip
                          refine s_iconst C dX10_conditionFault_176 (by decide) (fun z334 tz334 => ?_)
                          refine s_istore_n C dX10_conditionFault_177 (by decide) (Nat.le_of_ble_eq_true rfl) rfl ?_
                          show WP E ad 178 [some (.ref (ad 71)), some (.int z334), some (.int z), some (.int (τ.1 86 z.toNatClampNeg))] [] τ332
                          refine s_iinc C dX10_conditionFault_178 rfl (by decide) rfl (by decide) (by omega) (fun z335 tz335 => ?_)
                          show WP E ad 181 [some (.ref (ad 71)), some (.int z334), some (.int z335), some (.int (τ.1 86 z.toNatClampNeg))] [] τ332
                          refine s_goto (tgt := 230) C dX10_conditionFault_181 (by decide) ?_
                          refine s_iload_n C dX10_conditionFault_230 rfl ?_
                          refine s_if_ge (tgt := 238) C dX10_conditionFault_231 (by decide) (fun q336 => ?_) (fun q336 => ?_)
                          · refine s_goto (tgt := 9) C dX10_conditionFault_238 (by decide) ?_
                            refine wp_le (lv' := [some (.ref (ad 71)), some (.int z334), some (.int z335), none]) ⟨rfl, ⟨rfl, ⟨rfl, trivial⟩⟩⟩ ?_
                            have ek1 : z335.toInt.toNat = z.toInt.toNat + 1 := by omega
                            exact ih τ332 (te o) z334 z335 (Fr.tr (Fr.tr Fr.rf (Fr.mo kF (by decide) (by decide))) (Fr.mo h333.1 (by decide) (by decide))) dτ332 pτ332 (by omega) (by omega) (by omega) (fun ⟨f, hf⟩ => hac ⟨f + 1, Or.inr ⟨by omega, Or.inr (Or.inr (Or.inr (Or.inr (Or.inl ⟨by omega, by omega, (by rw [ek1, show z334.toInt.toNat = 0 by omega] at hf; exact hf)⟩))))⟩⟩) (by omega)
                          · refine s_iconst C dX10_conditionFault_234 (by decide) (fun z337 tz337 => ?_)
                            refine s_iload_n C dX10_conditionFault_235 rfl ?_
                            refine s_isub C dX10_conditionFault_236 (by omega) (fun z338 tz338 => ?_)
                            exact s_iret C X dX10_conditionFault_237 ⟨(Fr.tr (Fr.tr Fr.rf (Fr.mo kF (by decide) (by decide))) (Fr.mo h333.1 (by decide) (by decide))), by omega, by omega, fun q => by omega⟩
                      · refine s_iload_n C dX10_conditionFault_161 rfl ?_
                        refine s_bipush C dX10_conditionFault_162 (by decide) (fun z339 tz339 => ?_)
                        refine s_icmp_ne (tgt := 184) C dX10_conditionFault_164 (by decide) (fun q340 => ?_) (fun q340 => ?_)
                        · refine s_iload_n C dX10_conditionFault_184 rfl ?_
                          refine s_bipush C dX10_conditionFault_185 (by decide) (fun z341 tz341 => ?_)
                          refine s_icmp_ne (tgt := 228) C dX10_conditionFault_187 (by decide) (fun q342 => ?_) (fun q342 => ?_)
                          · refine s_iload_n C dX10_conditionFault_228 rfl ?_
                            exact s_iret C X dX10_conditionFault_229 ⟨(Fr.tr Fr.rf (Fr.mo kF (by decide) (by decide))), by omega, by omega, fun q => by omega⟩
                          · refine s_iload_n C dX10_conditionFault_190 rfl ?_
                            refine s_iconst C dX10_conditionFault_191 (by decide) (fun z343 tz343 => ?_)
                            refine s_icmp_le (tgt := 228) C dX10_conditionFault_192 (by decide) (fun q344 => ?_) (fun q344 => ?_)
                            · refine s_iload_n C dX10_conditionFault_228 rfl ?_
                              exact s_iret C X dX10_conditionFault_229 ⟨(Fr.tr Fr.rf (Fr.mo kF (by decide) (by decide))), by omega, by omega, fun q => by omega⟩
                            · refine s_aload_n C dX10_conditionFault_195 rfl ?_
                              refine s_callVI (st := []) C (c_X10_isOpen l ad τ o hd ho (by omega)) cv_X10_269 y71 rfl rfl rfl ⟨by decide, by decide⟩ (Nat.le_of_ble_eq_true rfl) dX10_conditionFault_196 ?_
                              intro r345 τ346 h347
                              obtain ⟨eh347, h347⟩ := h347; replace eh347 := eh347.symm; subst eh347
                              have mh347 := h347.2
                              refine s_if_eq (tgt := 228) C dX10_conditionFault_199 (by decide) (fun q348 => ?_) (fun q348 => ?_)
                              · refine s_iload_n C dX10_conditionFault_228 rfl ?_
                                exact s_iret C X dX10_conditionFault_229 ⟨(Fr.tr Fr.rf (Fr.mo kF (by decide) (by decide))), by omega, by omega, fun q => by omega⟩
                              · refine s_aload_n C dX10_conditionFault_202 rfl ?_
                                refine s_callVV (st := []) C (c_X10_testEnds l ad τ o hd ho (by omega)) cv_X10_266 y71 rfl rfl rfl ⟨by decide, by decide⟩ (Nat.le_of_ble_eq_true rfl) dX10_conditionFault_203 ?_
                                intro τ350 h351
                                have dτ350 : Int32.toInt (τ350.1 71 49) = (te o).length := h351.2
                                have pτ350 : Op (τ350.1 109) (te o) := by rw [h351.1.a 109 (by decide) (by decide)]; exact Op_te o ho
                                have qτ350 := te_len o
                                obtain ⟨r6, hr6⟩ := te_hd (mh347.mp (by omega))
                                have hl6 : 1 ≤ (te o).length := by rw [hr6]; simp
                                refine s_aload_n C dX10_conditionFault_206 rfl ?_
                                refine s_dup C dX10_conditionFault_207 rfl ?_
                                refine s_get (k := 49) (x := (τ350.1 71 49)) C y71 fw_X10_260 rfl rfl dX10_conditionFault_208 ?_
                                refine s_iconst C dX10_conditionFault_211 (by decide) (fun z352 tz352 => ?_)
                                refine s_isub C dX10_conditionFault_212 (by omega) (fun z353 tz353 => ?_)
                                refine s_put (k := 49) C y71 fw_X10_260 fp_9_49 rfl dX10_conditionFault_213 ?_
                                refine s_aload_n C dX10_conditionFault_216 rfl ?_
                                refine s_callVV (st := []) C (c_X10_testEnds l ad (sV τ350 71 49 z353) (te o).tail (by show Int32.toInt z353 = _; rw [List.length_tail]; omega) (Op_tail _ pτ350) (by rw [List.length_tail]; omega)) cv_X10_266 y71 rfl rfl rfl ⟨by decide, by decide⟩ (Nat.le_of_ble_eq_true rfl) dX10_conditionFault_217 ?_
                                intro τ355 h356
                                have dτ355 : Int32.toInt (τ355.1 71 49) = (te (te o).tail).length := h356.2
                                have pτ355 : Op (τ355.1 109) (te (te o).tail) := by rw [h356.1.a 109 (by decide) (by decide)]; exact Op_te _ (Op_tail _ pτ350)
                                have qτ355 := te_len (te o).tail
                                have qqτ355 : (te o).tail.length = (te o).length - 1 := List.length_tail
                                skip
                                refine s_iconst C dX10_conditionFault_220 (by decide) (fun z357 tz357 => ?_)
                                refine s_istore_n C dX10_conditionFault_221 (by decide) (Nat.le_of_ble_eq_true rfl) rfl ?_
                                show WP E ad 222 [some (.ref (ad 71)), some (.int z357), some (.int z), some (.int (τ.1 86 z.toNatClampNeg))] [] τ355
                                refine s_iinc C dX10_conditionFault_222 rfl (by decide) rfl (by decide) (by omega) (fun z358 tz358 => ?_)
                                show WP E ad 225 [some (.ref (ad 71)), some (.int z357), some (.int z358), some (.int (τ.1 86 z.toNatClampNeg))] [] τ355
                                refine s_goto (tgt := 230) C dX10_conditionFault_225 (by decide) ?_
                                refine s_iload_n C dX10_conditionFault_230 rfl ?_
                                refine s_if_ge (tgt := 238) C dX10_conditionFault_231 (by decide) (fun q359 => ?_) (fun q359 => ?_)
                                · refine s_goto (tgt := 9) C dX10_conditionFault_238 (by decide) ?_
                                  refine wp_le (lv' := [some (.ref (ad 71)), some (.int z357), some (.int z358), none]) ⟨rfl, ⟨rfl, ⟨rfl, trivial⟩⟩⟩ ?_
                                  have ek1 : z358.toInt.toNat = z.toInt.toNat + 1 := by omega
                                  exact ih τ355 (te (te o).tail) z357 z358 (Fr.tr (Fr.sV (Fr.tr (Fr.tr Fr.rf (Fr.mo kF (by decide) (by decide))) (Fr.mo h351.1 (by decide) (by decide))) (Or.inr (by decide))) (Fr.mo h356.1 (by decide) (by decide))) dτ355 pτ355 (by omega) (by omega) (by omega) (fun ⟨f, hf⟩ => hac ⟨f + 1, Or.inr ⟨by omega, Or.inr (Or.inr (Or.inr (Or.inr (Or.inr ⟨by omega, by omega, mh347.mp (by omega), (by rw [ek1, show z357.toInt.toNat = 3 by omega] at hf; exact hf)⟩))))⟩⟩) (by omega)
                                · refine s_iconst C dX10_conditionFault_234 (by decide) (fun z360 tz360 => ?_)
                                  refine s_iload_n C dX10_conditionFault_235 rfl ?_
                                  refine s_isub C dX10_conditionFault_236 (by omega) (fun z361 tz361 => ?_)
                                  exact s_iret C X dX10_conditionFault_237 ⟨(Fr.tr (Fr.sV (Fr.tr (Fr.tr Fr.rf (Fr.mo kF (by decide) (by decide))) (Fr.mo h351.1 (by decide) (by decide))) (Or.inr (by decide))) (Fr.mo h356.1 (by decide) (by decide))), by omega, by omega, fun q => by omega⟩
                        · refine s_iload_n C dX10_conditionFault_167 rfl ?_
                          refine s_iconst C dX10_conditionFault_168 (by decide) (fun z362 tz362 => ?_)
                          refine s_icmp_le (tgt := 184) C dX10_conditionFault_169 (by decide) (fun q363 => ?_) (fun q363 => ?_)
                          · refine s_iload_n C dX10_conditionFault_184 rfl ?_
                            refine s_bipush C dX10_conditionFault_185 (by decide) (fun z364 tz364 => ?_)
                            refine s_icmp_ne (tgt := 228) C dX10_conditionFault_187 (by decide) (fun q365 => ?_) (fun q365 => ?_)
                            · refine s_iload_n C dX10_conditionFault_228 rfl ?_
                              exact s_iret C X dX10_conditionFault_229 ⟨(Fr.tr Fr.rf (Fr.mo kF (by decide) (by decide))), by omega, by omega, fun q => by omega⟩
                            · refine s_iload_n C dX10_conditionFault_190 rfl ?_
                              refine s_iconst C dX10_conditionFault_191 (by decide) (fun z366 tz366 => ?_)
                              refine s_icmp_le (tgt := 228) C dX10_conditionFault_192 (by decide) (fun q367 => ?_) (fun q367 => ?_)
                              · refine s_iload_n C dX10_conditionFault_228 rfl ?_
                                exact s_iret C X dX10_conditionFault_229 ⟨(Fr.tr Fr.rf (Fr.mo kF (by decide) (by decide))), by omega, by omega, fun q => by omega⟩
                              · refine s_aload_n C dX10_conditionFault_195 rfl ?_
                                refine s_callVI (st := []) C (c_X10_isOpen l ad τ o hd ho (by omega)) cv_X10_269 y71 rfl rfl rfl ⟨by decide, by decide⟩ (Nat.le_of_ble_eq_true rfl) dX10_conditionFault_196 ?_
                                intro r368 τ369 h370
                                obtain ⟨eh370, h370⟩ := h370; replace eh370 := eh370.symm; subst eh370
                                have mh370 := h370.2
                                refine s_if_eq (tgt := 228) C dX10_conditionFault_199 (by decide) (fun q371 => ?_) (fun q371 => ?_)
                                · refine s_iload_n C dX10_conditionFault_228 rfl ?_
                                  exact s_iret C X dX10_conditionFault_229 ⟨(Fr.tr Fr.rf (Fr.mo kF (by decide) (by decide))), by omega, by omega, fun q => by omega⟩
                                · refine s_aload_n C dX10_conditionFault_202 rfl ?_
                                  refine s_callVV (st := []) C (c_X10_testEnds l ad τ o hd ho (by omega)) cv_X10_266 y71 rfl rfl rfl ⟨by decide, by decide⟩ (Nat.le_of_ble_eq_true rfl) dX10_conditionFault_203 ?_
                                  intro τ373 h374
                                  have dτ373 : Int32.toInt (τ373.1 71 49) = (te o).length := h374.2
                                  have pτ373 : Op (τ373.1 109) (te o) := by rw [h374.1.a 109 (by decide) (by decide)]; exact Op_te o ho
                                  have qτ373 := te_len o
                                  obtain ⟨r6, hr6⟩ := te_hd (mh370.mp (by omega))
                                  have hl6 : 1 ≤ (te o).length := by rw [hr6]; simp
                                  refine s_aload_n C dX10_conditionFault_206 rfl ?_
                                  refine s_dup C dX10_conditionFault_207 rfl ?_
                                  refine s_get (k := 49) (x := (τ373.1 71 49)) C y71 fw_X10_260 rfl rfl dX10_conditionFault_208 ?_
                                  refine s_iconst C dX10_conditionFault_211 (by decide) (fun z375 tz375 => ?_)
                                  refine s_isub C dX10_conditionFault_212 (by omega) (fun z376 tz376 => ?_)
                                  refine s_put (k := 49) C y71 fw_X10_260 fp_9_49 rfl dX10_conditionFault_213 ?_
                                  refine s_aload_n C dX10_conditionFault_216 rfl ?_
                                  refine s_callVV (st := []) C (c_X10_testEnds l ad (sV τ373 71 49 z376) (te o).tail (by show Int32.toInt z376 = _; rw [List.length_tail]; omega) (Op_tail _ pτ373) (by rw [List.length_tail]; omega)) cv_X10_266 y71 rfl rfl rfl ⟨by decide, by decide⟩ (Nat.le_of_ble_eq_true rfl) dX10_conditionFault_217 ?_
                                  intro τ378 h379
                                  have dτ378 : Int32.toInt (τ378.1 71 49) = (te (te o).tail).length := h379.2
                                  have pτ378 : Op (τ378.1 109) (te (te o).tail) := by rw [h379.1.a 109 (by decide) (by decide)]; exact Op_te _ (Op_tail _ pτ373)
                                  have qτ378 := te_len (te o).tail
                                  have qqτ378 : (te o).tail.length = (te o).length - 1 := List.length_tail
                                  skip
                                  refine s_iconst C dX10_conditionFault_220 (by decide) (fun z380 tz380 => ?_)
                                  refine s_istore_n C dX10_conditionFault_221 (by decide) (Nat.le_of_ble_eq_true rfl) rfl ?_
                                  show WP E ad 222 [some (.ref (ad 71)), some (.int z380), some (.int z), some (.int (τ.1 86 z.toNatClampNeg))] [] τ378
                                  refine s_iinc C dX10_conditionFault_222 rfl (by decide) rfl (by decide) (by omega) (fun z381 tz381 => ?_)
                                  show WP E ad 225 [some (.ref (ad 71)), some (.int z380), some (.int z381), some (.int (τ.1 86 z.toNatClampNeg))] [] τ378
                                  refine s_goto (tgt := 230) C dX10_conditionFault_225 (by decide) ?_
                                  refine s_iload_n C dX10_conditionFault_230 rfl ?_
                                  refine s_if_ge (tgt := 238) C dX10_conditionFault_231 (by decide) (fun q382 => ?_) (fun q382 => ?_)
                                  · refine s_goto (tgt := 9) C dX10_conditionFault_238 (by decide) ?_
                                    refine wp_le (lv' := [some (.ref (ad 71)), some (.int z380), some (.int z381), none]) ⟨rfl, ⟨rfl, ⟨rfl, trivial⟩⟩⟩ ?_
                                    have ek1 : z381.toInt.toNat = z.toInt.toNat + 1 := by omega
                                    exact ih τ378 (te (te o).tail) z380 z381 (Fr.tr (Fr.sV (Fr.tr (Fr.tr Fr.rf (Fr.mo kF (by decide) (by decide))) (Fr.mo h374.1 (by decide) (by decide))) (Or.inr (by decide))) (Fr.mo h379.1 (by decide) (by decide))) dτ378 pτ378 (by omega) (by omega) (by omega) (fun ⟨f, hf⟩ => hac ⟨f + 1, Or.inr ⟨by omega, Or.inr (Or.inr (Or.inr (Or.inr (Or.inr ⟨by omega, by omega, mh370.mp (by omega), (by rw [ek1, show z380.toInt.toNat = 3 by omega] at hf; exact hf)⟩))))⟩⟩) (by omega)
                                  · refine s_iconst C dX10_conditionFault_234 (by decide) (fun z383 tz383 => ?_)
                                    refine s_iload_n C dX10_conditionFault_235 rfl ?_
                                    refine s_isub C dX10_conditionFault_236 (by omega) (fun z384 tz384 => ?_)
                                    exact s_iret C X dX10_conditionFault_237 ⟨(Fr.tr (Fr.sV (Fr.tr (Fr.tr Fr.rf (Fr.mo kF (by decide) (by decide))) (Fr.mo h374.1 (by decide) (by decide))) (Or.inr (by decide))) (Fr.mo h379.1 (by decide) (by decide))), by omega, by omega, fun q => by omega⟩
                          · refine s_aload_n C dX10_conditionFault_172 rfl ?_
                            refine s_callVV (st := []) C (c_X10_testEnds l ad τ o hd ho (by omega)) cv_X10_266 y71 rfl rfl rfl ⟨by decide, by decide⟩ (Nat.le_of_ble_eq_true rfl) dX10_conditionFault_173 ?_
                            intro τ386 h387
                            have dτ386 : Int32.toInt (τ386.1 71 49) = (te o).length := h387.2
                            have pτ386 : Op (τ386.1 109) (te o) := by rw [h387.1.a 109 (by decide) (by decide)]; exact Op_te o ho
                            have qτ386 := te_len o
                            skip
                            refine s_iconst C dX10_conditionFault_176 (by decide) (fun z388 tz388 => ?_)
                            refine s_istore_n C dX10_conditionFault_177 (by decide) (Nat.le_of_ble_eq_true rfl) rfl ?_
                            show WP E ad 178 [some (.ref (ad 71)), some (.int z388), some (.int z), some (.int (τ.1 86 z.toNatClampNeg))] [] τ386
                            refine s_iinc C dX10_conditionFault_178 rfl (by decide) rfl (by decide) (by omega) (fun z389 tz389 => ?_)
                            show WP E ad 181 [some (.ref (ad 71)), some (.int z388), some (.int z389), some (.int (τ.1 86 z.toNatClampNeg))] [] τ386
                            refine s_goto (tgt := 230) C dX10_conditionFault_181 (by decide) ?_
                            refine s_iload_n C dX10_conditionFault_230 rfl ?_
                            refine s_if_ge (tgt := 238) C dX10_conditionFault_231 (by decide) (fun q390 => ?_) (fun q390 => ?_)
                            · refine s_goto (tgt := 9) C dX10_conditionFault_238 (by decide) ?_
                              refine wp_le (lv' := [some (.ref (ad 71)), some (.int z388), some (.int z389), none]) ⟨rfl, ⟨rfl, ⟨rfl, trivial⟩⟩⟩ ?_
                              have ek1 : z389.toInt.toNat = z.toInt.toNat + 1 := by omega
                              exact ih τ386 (te o) z388 z389 (Fr.tr (Fr.tr Fr.rf (Fr.mo kF (by decide) (by decide))) (Fr.mo h387.1 (by decide) (by decide))) dτ386 pτ386 (by omega) (by omega) (by omega) (fun ⟨f, hf⟩ => hac ⟨f + 1, Or.inr ⟨by omega, Or.inr (Or.inr (Or.inr (Or.inr (Or.inl ⟨by omega, by omega, (by rw [ek1, show z388.toInt.toNat = 0 by omega] at hf; exact hf)⟩))))⟩⟩) (by omega)
                            · refine s_iconst C dX10_conditionFault_234 (by decide) (fun z391 tz391 => ?_)
                              refine s_iload_n C dX10_conditionFault_235 rfl ?_
                              refine s_isub C dX10_conditionFault_236 (by omega) (fun z392 tz392 => ?_)
                              exact s_iret C X dX10_conditionFault_237 ⟨(Fr.tr (Fr.tr Fr.rf (Fr.mo kF (by decide) (by decide))) (Fr.mo h387.1 (by decide) (by decide))), by omega, by omega, fun q => by omega⟩
                    · refine s_aload_n C dX10_conditionFault_142 rfl ?_
                      refine s_iload_n C dX10_conditionFault_143 rfl ?_
                      refine s_iconst C dX10_conditionFault_144 (by decide) (fun z393 tz393 => ?_)
                      refine s_iadd C dX10_conditionFault_145 (by omega) (fun z394 tz394 => ?_)
                      refine s_callVI (st := []) C (c_X10_behindUnit l ad τ z394 (by omega) (by omega) (by omega)) cv_X10_263 y71 rfl rfl rfl ⟨by decide, by decide⟩ (Nat.le_of_ble_eq_true rfl) dX10_conditionFault_146 ?_
                      intro r395 τ396 h397
                      obtain ⟨eh397, h397⟩ := h397; replace eh397 := eh397.symm; subst eh397
                      have uh397 := h397.2.2
                      rw [f0, f17, e86] at uh397
                      have vh397 : 0 ≤ Int32.toInt r395 → Int32.toInt r395 ≤ Int32.toInt (σ.1 71 17) := fun q => by have := un_le (uh397 q).2; omega
                      skip
                      refine s_istore_n C dX10_conditionFault_149 (by decide) (Nat.le_of_ble_eq_true rfl) rfl ?_
                      show WP E ad 150 [some (.ref (ad 71)), some (.int y), some (.int r395), some (.int (τ.1 86 z.toNatClampNeg))] [] τ
                      refine s_iconst C dX10_conditionFault_150 (by decide) (fun z398 tz398 => ?_)
                      refine s_istore_n C dX10_conditionFault_151 (by decide) (Nat.le_of_ble_eq_true rfl) rfl ?_
                      show WP E ad 152 [some (.ref (ad 71)), some (.int z398), some (.int r395), some (.int (τ.1 86 z.toNatClampNeg))] [] τ
                      refine s_goto (tgt := 230) C dX10_conditionFault_152 (by decide) ?_
                      refine s_iload_n C dX10_conditionFault_230 rfl ?_
                      refine s_if_ge (tgt := 238) C dX10_conditionFault_231 (by decide) (fun q399 => ?_) (fun q399 => ?_)
                      · refine s_goto (tgt := 9) C dX10_conditionFault_238 (by decide) ?_
                        refine wp_le (lv' := [some (.ref (ad 71)), some (.int z398), some (.int r395), none]) ⟨rfl, ⟨rfl, ⟨rfl, trivial⟩⟩⟩ ?_
                        have ez1 : z394.toInt.toNat = z.toInt.toNat + 1 := by omega
                        rw [ez1] at uh397
                        exact ih τ o z398 r395 (Fr.tr Fr.rf (Fr.mo kF (by decide) (by decide))) hd ho (by omega) (by omega) (by omega) (fun ⟨f, hf⟩ => hac ⟨f + 1, Or.inr ⟨by omega, Or.inr (Or.inr (Or.inr (Or.inl ⟨by omega, by omega, _, (uh397 (by omega)).2, (by rw [show z398.toInt.toNat = 2 by omega] at hf; exact hf)⟩)))⟩⟩) (by omega)
                      · refine s_iconst C dX10_conditionFault_234 (by decide) (fun z400 tz400 => ?_)
                        refine s_iload_n C dX10_conditionFault_235 rfl ?_
                        refine s_isub C dX10_conditionFault_236 (by omega) (fun z401 tz401 => ?_)
                        exact s_iret C X dX10_conditionFault_237 ⟨(Fr.tr Fr.rf (Fr.mo kF (by decide) (by decide))), by omega, by omega, fun q => by omega⟩
            · refine s_aload_n C dX10_conditionFault_108 rfl ?_
              refine s_iload_n C dX10_conditionFault_109 rfl ?_
              refine s_iconst C dX10_conditionFault_110 (by decide) (fun z402 tz402 => ?_)
              refine s_iadd C dX10_conditionFault_111 (by omega) (fun z403 tz403 => ?_)
              refine s_callVI (st := []) C (c_X10_behindUnit l ad τ z403 (by omega) (by omega) (by omega)) cv_X10_263 y71 rfl rfl rfl ⟨by decide, by decide⟩ (Nat.le_of_ble_eq_true rfl) dX10_conditionFault_112 ?_
              intro r404 τ405 h406
              obtain ⟨eh406, h406⟩ := h406; replace eh406 := eh406.symm; subst eh406
              have uh406 := h406.2.2
              rw [f0, f17, e86] at uh406
              have vh406 : 0 ≤ Int32.toInt r404 → Int32.toInt r404 ≤ Int32.toInt (σ.1 71 17) := fun q => by have := un_le (uh406 q).2; omega
              skip
              refine s_istore_n C dX10_conditionFault_115 (by decide) (Nat.le_of_ble_eq_true rfl) rfl ?_
              show WP E ad 116 [some (.ref (ad 71)), some (.int y), some (.int r404), some (.int (τ.1 86 z.toNatClampNeg))] [] τ
              refine s_goto (tgt := 230) C dX10_conditionFault_116 (by decide) ?_
              refine s_iload_n C dX10_conditionFault_230 rfl ?_
              refine s_if_ge (tgt := 238) C dX10_conditionFault_231 (by decide) (fun q407 => ?_) (fun q407 => ?_)
              · refine s_goto (tgt := 9) C dX10_conditionFault_238 (by decide) ?_
                refine wp_le (lv' := [some (.ref (ad 71)), some (.int y), some (.int r404), none]) ⟨rfl, ⟨rfl, ⟨rfl, trivial⟩⟩⟩ ?_
                have ez1 : z403.toInt.toNat = z.toInt.toNat + 1 := by omega
                rw [ez1] at uh406
                exact ih τ o y r404 (Fr.tr Fr.rf (Fr.mo kF (by decide) (by decide))) hd ho (by omega) (by omega) (by omega) (fun ⟨f, hf⟩ => hac ⟨f + 1, Or.inr ⟨by omega, Or.inr (Or.inr (Or.inl ⟨by omega, by omega, _, (uh406 (by omega)).2, hf⟩))⟩⟩) (by omega)
              · refine s_iconst C dX10_conditionFault_234 (by decide) (fun z408 tz408 => ?_)
                refine s_iload_n C dX10_conditionFault_235 rfl ?_
                refine s_isub C dX10_conditionFault_236 (by omega) (fun z409 tz409 => ?_)
                exact s_iret C X dX10_conditionFault_237 ⟨(Fr.tr Fr.rf (Fr.mo kF (by decide) (by decide))), by omega, by omega, fun q => by omega⟩
          · refine s_iload_n C dX10_conditionFault_97 rfl ?_
            refine s_bipush C dX10_conditionFault_98 (by decide) (fun z410 tz410 => ?_)
            refine s_icmp_ne (tgt := 119) C dX10_conditionFault_100 (by decide) (fun q411 => ?_) (fun q411 => ?_)
            · refine s_iload_n C dX10_conditionFault_119 rfl ?_
              refine s_bipush C dX10_conditionFault_120 (by decide) (fun z412 tz412 => ?_)
              refine s_icmp_eq (tgt := 137) C dX10_conditionFault_122 (by decide) (fun q413 => ?_) (fun q413 => ?_)
              · refine s_iload_n C dX10_conditionFault_137 rfl ?_
                refine s_iconst C dX10_conditionFault_138 (by decide) (fun z414 tz414 => ?_)
                refine s_icmp_ne (tgt := 155) C dX10_conditionFault_139 (by decide) (fun q415 => ?_) (fun q415 => ?_)
                · refine s_iload_n C dX10_conditionFault_155 rfl ?_
                  refine s_bipush C dX10_conditionFault_156 (by decide) (fun z416 tz416 => ?_)
                  refine s_icmp_eq (tgt := 167) C dX10_conditionFault_158 (by decide) (fun q417 => ?_) (fun q417 => ?_)
                  · refine s_iload_n C dX10_conditionFault_167 rfl ?_
                    refine s_iconst C dX10_conditionFault_168 (by decide) (fun z418 tz418 => ?_)
                    refine s_icmp_le (tgt := 184) C dX10_conditionFault_169 (by decide) (fun q419 => ?_) (fun q419 => ?_)
                    · refine s_iload_n C dX10_conditionFault_184 rfl ?_
                      refine s_bipush C dX10_conditionFault_185 (by decide) (fun z420 tz420 => ?_)
                      refine s_icmp_ne (tgt := 228) C dX10_conditionFault_187 (by decide) (fun q421 => ?_) (fun q421 => ?_)
                      · refine s_iload_n C dX10_conditionFault_228 rfl ?_
                        exact s_iret C X dX10_conditionFault_229 ⟨(Fr.tr Fr.rf (Fr.mo kF (by decide) (by decide))), by omega, by omega, fun q => by omega⟩
                      · refine s_iload_n C dX10_conditionFault_190 rfl ?_
                        refine s_iconst C dX10_conditionFault_191 (by decide) (fun z422 tz422 => ?_)
                        refine s_icmp_le (tgt := 228) C dX10_conditionFault_192 (by decide) (fun q423 => ?_) (fun q423 => ?_)
                        · refine s_iload_n C dX10_conditionFault_228 rfl ?_
                          exact s_iret C X dX10_conditionFault_229 ⟨(Fr.tr Fr.rf (Fr.mo kF (by decide) (by decide))), by omega, by omega, fun q => by omega⟩
                        · refine s_aload_n C dX10_conditionFault_195 rfl ?_
                          refine s_callVI (st := []) C (c_X10_isOpen l ad τ o hd ho (by omega)) cv_X10_269 y71 rfl rfl rfl ⟨by decide, by decide⟩ (Nat.le_of_ble_eq_true rfl) dX10_conditionFault_196 ?_
                          intro r424 τ425 h426
                          obtain ⟨eh426, h426⟩ := h426; replace eh426 := eh426.symm; subst eh426
                          have mh426 := h426.2
                          refine s_if_eq (tgt := 228) C dX10_conditionFault_199 (by decide) (fun q427 => ?_) (fun q427 => ?_)
                          · refine s_iload_n C dX10_conditionFault_228 rfl ?_
                            exact s_iret C X dX10_conditionFault_229 ⟨(Fr.tr Fr.rf (Fr.mo kF (by decide) (by decide))), by omega, by omega, fun q => by omega⟩
                          · refine s_aload_n C dX10_conditionFault_202 rfl ?_
                            refine s_callVV (st := []) C (c_X10_testEnds l ad τ o hd ho (by omega)) cv_X10_266 y71 rfl rfl rfl ⟨by decide, by decide⟩ (Nat.le_of_ble_eq_true rfl) dX10_conditionFault_203 ?_
                            intro τ429 h430
                            have dτ429 : Int32.toInt (τ429.1 71 49) = (te o).length := h430.2
                            have pτ429 : Op (τ429.1 109) (te o) := by rw [h430.1.a 109 (by decide) (by decide)]; exact Op_te o ho
                            have qτ429 := te_len o
                            obtain ⟨r6, hr6⟩ := te_hd (mh426.mp (by omega))
                            have hl6 : 1 ≤ (te o).length := by rw [hr6]; simp
                            refine s_aload_n C dX10_conditionFault_206 rfl ?_
                            refine s_dup C dX10_conditionFault_207 rfl ?_
                            refine s_get (k := 49) (x := (τ429.1 71 49)) C y71 fw_X10_260 rfl rfl dX10_conditionFault_208 ?_
                            refine s_iconst C dX10_conditionFault_211 (by decide) (fun z431 tz431 => ?_)
                            refine s_isub C dX10_conditionFault_212 (by omega) (fun z432 tz432 => ?_)
                            refine s_put (k := 49) C y71 fw_X10_260 fp_9_49 rfl dX10_conditionFault_213 ?_
                            refine s_aload_n C dX10_conditionFault_216 rfl ?_
                            refine s_callVV (st := []) C (c_X10_testEnds l ad (sV τ429 71 49 z432) (te o).tail (by show Int32.toInt z432 = _; rw [List.length_tail]; omega) (Op_tail _ pτ429) (by rw [List.length_tail]; omega)) cv_X10_266 y71 rfl rfl rfl ⟨by decide, by decide⟩ (Nat.le_of_ble_eq_true rfl) dX10_conditionFault_217 ?_
                            intro τ434 h435
                            have dτ434 : Int32.toInt (τ434.1 71 49) = (te (te o).tail).length := h435.2
                            have pτ434 : Op (τ434.1 109) (te (te o).tail) := by rw [h435.1.a 109 (by decide) (by decide)]; exact Op_te _ (Op_tail _ pτ429)
                            have qτ434 := te_len (te o).tail
                            have qqτ434 : (te o).tail.length = (te o).length - 1 := List.length_tail
                            skip
                            refine s_iconst C dX10_conditionFault_220 (by decide) (fun z436 tz436 => ?_)
                            refine s_istore_n C dX10_conditionFault_221 (by decide) (Nat.le_of_ble_eq_true rfl) rfl ?_
                            show WP E ad 222 [some (.ref (ad 71)), some (.int z436), some (.int z), some (.int (τ.1 86 z.toNatClampNeg))] [] τ434
                            refine s_iinc C dX10_conditionFault_222 rfl (by decide) rfl (by decide) (by omega) (fun z437 tz437 => ?_)
                            show WP E ad 225 [some (.ref (ad 71)), some (.int z436), some (.int z437), some (.int (τ.1 86 z.toNatClampNeg))] [] τ434
                            refine s_goto (tgt := 230) C dX10_conditionFault_225 (by decide) ?_
                            refine s_iload_n C dX10_conditionFault_230 rfl ?_
                            refine s_if_ge (tgt := 238) C dX10_conditionFault_231 (by decide) (fun q438 => ?_) (fun q438 => ?_)
                            · refine s_goto (tgt := 9) C dX10_conditionFault_238 (by decide) ?_
                              refine wp_le (lv' := [some (.ref (ad 71)), some (.int z436), some (.int z437), none]) ⟨rfl, ⟨rfl, ⟨rfl, trivial⟩⟩⟩ ?_
                              have ek1 : z437.toInt.toNat = z.toInt.toNat + 1 := by omega
                              exact ih τ434 (te (te o).tail) z436 z437 (Fr.tr (Fr.sV (Fr.tr (Fr.tr Fr.rf (Fr.mo kF (by decide) (by decide))) (Fr.mo h430.1 (by decide) (by decide))) (Or.inr (by decide))) (Fr.mo h435.1 (by decide) (by decide))) dτ434 pτ434 (by omega) (by omega) (by omega) (fun ⟨f, hf⟩ => hac ⟨f + 1, Or.inr ⟨by omega, Or.inr (Or.inr (Or.inr (Or.inr (Or.inr ⟨by omega, by omega, mh426.mp (by omega), (by rw [ek1, show z436.toInt.toNat = 3 by omega] at hf; exact hf)⟩))))⟩⟩) (by omega)
                            · refine s_iconst C dX10_conditionFault_234 (by decide) (fun z439 tz439 => ?_)
                              refine s_iload_n C dX10_conditionFault_235 rfl ?_
                              refine s_isub C dX10_conditionFault_236 (by omega) (fun z440 tz440 => ?_)
                              exact s_iret C X dX10_conditionFault_237 ⟨(Fr.tr (Fr.sV (Fr.tr (Fr.tr Fr.rf (Fr.mo kF (by decide) (by decide))) (Fr.mo h430.1 (by decide) (by decide))) (Or.inr (by decide))) (Fr.mo h435.1 (by decide) (by decide))), by omega, by omega, fun q => by omega⟩
                    · refine s_aload_n C dX10_conditionFault_172 rfl ?_
                      refine s_callVV (st := []) C (c_X10_testEnds l ad τ o hd ho (by omega)) cv_X10_266 y71 rfl rfl rfl ⟨by decide, by decide⟩ (Nat.le_of_ble_eq_true rfl) dX10_conditionFault_173 ?_
                      intro τ442 h443
                      have dτ442 : Int32.toInt (τ442.1 71 49) = (te o).length := h443.2
                      have pτ442 : Op (τ442.1 109) (te o) := by rw [h443.1.a 109 (by decide) (by decide)]; exact Op_te o ho
                      have qτ442 := te_len o
                      skip
                      refine s_iconst C dX10_conditionFault_176 (by decide) (fun z444 tz444 => ?_)
                      refine s_istore_n C dX10_conditionFault_177 (by decide) (Nat.le_of_ble_eq_true rfl) rfl ?_
                      show WP E ad 178 [some (.ref (ad 71)), some (.int z444), some (.int z), some (.int (τ.1 86 z.toNatClampNeg))] [] τ442
                      refine s_iinc C dX10_conditionFault_178 rfl (by decide) rfl (by decide) (by omega) (fun z445 tz445 => ?_)
                      show WP E ad 181 [some (.ref (ad 71)), some (.int z444), some (.int z445), some (.int (τ.1 86 z.toNatClampNeg))] [] τ442
                      refine s_goto (tgt := 230) C dX10_conditionFault_181 (by decide) ?_
                      refine s_iload_n C dX10_conditionFault_230 rfl ?_
                      refine s_if_ge (tgt := 238) C dX10_conditionFault_231 (by decide) (fun q446 => ?_) (fun q446 => ?_)
                      · refine s_goto (tgt := 9) C dX10_conditionFault_238 (by decide) ?_
                        refine wp_le (lv' := [some (.ref (ad 71)), some (.int z444), some (.int z445), none]) ⟨rfl, ⟨rfl, ⟨rfl, trivial⟩⟩⟩ ?_
                        have ek1 : z445.toInt.toNat = z.toInt.toNat + 1 := by omega
                        exact ih τ442 (te o) z444 z445 (Fr.tr (Fr.tr Fr.rf (Fr.mo kF (by decide) (by decide))) (Fr.mo h443.1 (by decide) (by decide))) dτ442 pτ442 (by omega) (by omega) (by omega) (fun ⟨f, hf⟩ => hac ⟨f + 1, Or.inr ⟨by omega, Or.inr (Or.inr (Or.inr (Or.inr (Or.inl ⟨by omega, by omega, (by rw [ek1, show z444.toInt.toNat = 0 by omega] at hf; exact hf)⟩))))⟩⟩) (by omega)
                      · refine s_iconst C dX10_conditionFault_234 (by decide) (fun z447 tz447 => ?_)
                        refine s_iload_n C dX10_conditionFault_235 rfl ?_
                        refine s_isub C dX10_conditionFault_236 (by omega) (fun z448 tz448 => ?_)
                        exact s_iret C X dX10_conditionFault_237 ⟨(Fr.tr (Fr.tr Fr.rf (Fr.mo kF (by decide) (by decide))) (Fr.mo h443.1 (by decide) (by decide))), by omega, by omega, fun q => by omega⟩
                  · refine s_iload_n C dX10_conditionFault_161 rfl ?_
                    refine s_bipush C dX10_conditionFault_162 (by decide) (fun z449 tz449 => ?_)
                    refine s_icmp_ne (tgt := 184) C dX10_conditionFault_164 (by decide) (fun q450 => ?_) (fun q450 => ?_)
                    · refine s_iload_n C dX10_conditionFault_184 rfl ?_
                      refine s_bipush C dX10_conditionFault_185 (by decide) (fun z451 tz451 => ?_)
                      refine s_icmp_ne (tgt := 228) C dX10_conditionFault_187 (by decide) (fun q452 => ?_) (fun q452 => ?_)
                      · refine s_iload_n C dX10_conditionFault_228 rfl ?_
                        exact s_iret C X dX10_conditionFault_229 ⟨(Fr.tr Fr.rf (Fr.mo kF (by decide) (by decide))), by omega, by omega, fun q => by omega⟩
                      · refine s_iload_n C dX10_conditionFault_190 rfl ?_
                        refine s_iconst C dX10_conditionFault_191 (by decide) (fun z453 tz453 => ?_)
                        refine s_icmp_le (tgt := 228) C dX10_conditionFault_192 (by decide) (fun q454 => ?_) (fun q454 => ?_)
                        · refine s_iload_n C dX10_conditionFault_228 rfl ?_
                          exact s_iret C X dX10_conditionFault_229 ⟨(Fr.tr Fr.rf (Fr.mo kF (by decide) (by decide))), by omega, by omega, fun q => by omega⟩
                        · refine s_aload_n C dX10_conditionFault_195 rfl ?_
                          refine s_callVI (st := []) C (c_X10_isOpen l ad τ o hd ho (by omega)) cv_X10_269 y71 rfl rfl rfl ⟨by decide, by decide⟩ (Nat.le_of_ble_eq_true rfl) dX10_conditionFault_196 ?_
                          intro r455 τ456 h457
                          obtain ⟨eh457, h457⟩ := h457; replace eh457 := eh457.symm; subst eh457
                          have mh457 := h457.2
                          refine s_if_eq (tgt := 228) C dX10_conditionFault_199 (by decide) (fun q458 => ?_) (fun q458 => ?_)
                          · refine s_iload_n C dX10_conditionFault_228 rfl ?_
                            exact s_iret C X dX10_conditionFault_229 ⟨(Fr.tr Fr.rf (Fr.mo kF (by decide) (by decide))), by omega, by omega, fun q => by omega⟩
                          · refine s_aload_n C dX10_conditionFault_202 rfl ?_
                            refine s_callVV (st := []) C (c_X10_testEnds l ad τ o hd ho (by omega)) cv_X10_266 y71 rfl rfl rfl ⟨by decide, by decide⟩ (Nat.le_of_ble_eq_true rfl) dX10_conditionFault_203 ?_
                            intro τ460 h461
                            have dτ460 : Int32.toInt (τ460.1 71 49) = (te o).length := h461.2
                            have pτ460 : Op (τ460.1 109) (te o) := by rw [h461.1.a 109 (by decide) (by decide)]; exact Op_te o ho
                            have qτ460 := te_len o
                            obtain ⟨r6, hr6⟩ := te_hd (mh457.mp (by omega))
                            have hl6 : 1 ≤ (te o).length := by rw [hr6]; simp
                            refine s_aload_n C dX10_conditionFault_206 rfl ?_
                            refine s_dup C dX10_conditionFault_207 rfl ?_
                            refine s_get (k := 49) (x := (τ460.1 71 49)) C y71 fw_X10_260 rfl rfl dX10_conditionFault_208 ?_
                            refine s_iconst C dX10_conditionFault_211 (by decide) (fun z462 tz462 => ?_)
                            refine s_isub C dX10_conditionFault_212 (by omega) (fun z463 tz463 => ?_)
                            refine s_put (k := 49) C y71 fw_X10_260 fp_9_49 rfl dX10_conditionFault_213 ?_
                            refine s_aload_n C dX10_conditionFault_216 rfl ?_
                            refine s_callVV (st := []) C (c_X10_testEnds l ad (sV τ460 71 49 z463) (te o).tail (by show Int32.toInt z463 = _; rw [List.length_tail]; omega) (Op_tail _ pτ460) (by rw [List.length_tail]; omega)) cv_X10_266 y71 rfl rfl rfl ⟨by decide, by decide⟩ (Nat.le_of_ble_eq_true rfl) dX10_conditionFault_217 ?_
                            intro τ465 h466
                            have dτ465 : Int32.toInt (τ465.1 71 49) = (te (te o).tail).length := h466.2
                            have pτ465 : Op (τ465.1 109) (te (te o).tail) := by rw [h466.1.a 109 (by decide) (by decide)]; exact Op_te _ (Op_tail _ pτ460)
                            have qτ465 := te_len (te o).tail
                            have qqτ465 : (te o).tail.length = (te o).length - 1 := List.length_tail
                            skip
                            refine s_iconst C dX10_conditionFault_220 (by decide) (fun z467 tz467 => ?_)
                            refine s_istore_n C dX10_conditionFault_221 (by decide) (Nat.le_of_ble_eq_true rfl) rfl ?_
                            show WP E ad 222 [some (.ref (ad 71)), some (.int z467), some (.int z), some (.int (τ.1 86 z.toNatClampNeg))] [] τ465
                            refine s_iinc C dX10_conditionFault_222 rfl (by decide) rfl (by decide) (by omega) (fun z468 tz468 => ?_)
                            show WP E ad 225 [some (.ref (ad 71)), some (.int z467), some (.int z468), some (.int (τ.1 86 z.toNatClampNeg))] [] τ465
                            refine s_goto (tgt := 230) C dX10_conditionFault_225 (by decide) ?_
                            refine s_iload_n C dX10_conditionFault_230 rfl ?_
                            refine s_if_ge (tgt := 238) C dX10_conditionFault_231 (by decide) (fun q469 => ?_) (fun q469 => ?_)
                            · refine s_goto (tgt := 9) C dX10_conditionFault_238 (by decide) ?_
                              refine wp_le (lv' := [some (.ref (ad 71)), some (.int z467), some (.int z468), none]) ⟨rfl, ⟨rfl, ⟨rfl, trivial⟩⟩⟩ ?_
                              have ek1 : z468.toInt.toNat = z.toInt.toNat + 1 := by omega
                              exact ih τ465 (te (te o).tail) z467 z468 (Fr.tr (Fr.sV (Fr.tr (Fr.tr Fr.rf (Fr.mo kF (by decide) (by decide))) (Fr.mo h461.1 (by decide) (by decide))) (Or.inr (by decide))) (Fr.mo h466.1 (by decide) (by decide))) dτ465 pτ465 (by omega) (by omega) (by omega) (fun ⟨f, hf⟩ => hac ⟨f + 1, Or.inr ⟨by omega, Or.inr (Or.inr (Or.inr (Or.inr (Or.inr ⟨by omega, by omega, mh457.mp (by omega), (by rw [ek1, show z467.toInt.toNat = 3 by omega] at hf; exact hf)⟩))))⟩⟩) (by omega)
                            · refine s_iconst C dX10_conditionFault_234 (by decide) (fun z470 tz470 => ?_)
                              refine s_iload_n C dX10_conditionFault_235 rfl ?_
                              refine s_isub C dX10_conditionFault_236 (by omega) (fun z471 tz471 => ?_)
                              exact s_iret C X dX10_conditionFault_237 ⟨(Fr.tr (Fr.sV (Fr.tr (Fr.tr Fr.rf (Fr.mo kF (by decide) (by decide))) (Fr.mo h461.1 (by decide) (by decide))) (Or.inr (by decide))) (Fr.mo h466.1 (by decide) (by decide))), by omega, by omega, fun q => by omega⟩
                    · refine s_iload_n C dX10_conditionFault_167 rfl ?_
                      refine s_iconst C dX10_conditionFault_168 (by decide) (fun z472 tz472 => ?_)
                      refine s_icmp_le (tgt := 184) C dX10_conditionFault_169 (by decide) (fun q473 => ?_) (fun q473 => ?_)
                      · refine s_iload_n C dX10_conditionFault_184 rfl ?_
                        refine s_bipush C dX10_conditionFault_185 (by decide) (fun z474 tz474 => ?_)
                        refine s_icmp_ne (tgt := 228) C dX10_conditionFault_187 (by decide) (fun q475 => ?_) (fun q475 => ?_)
                        · refine s_iload_n C dX10_conditionFault_228 rfl ?_
                          exact s_iret C X dX10_conditionFault_229 ⟨(Fr.tr Fr.rf (Fr.mo kF (by decide) (by decide))), by omega, by omega, fun q => by omega⟩
                        · refine s_iload_n C dX10_conditionFault_190 rfl ?_
                          refine s_iconst C dX10_conditionFault_191 (by decide) (fun z476 tz476 => ?_)
                          refine s_icmp_le (tgt := 228) C dX10_conditionFault_192 (by decide) (fun q477 => ?_) (fun q477 => ?_)
                          · refine s_iload_n C dX10_conditionFault_228 rfl ?_
                            exact s_iret C X dX10_conditionFault_229 ⟨(Fr.tr Fr.rf (Fr.mo kF (by decide) (by decide))), by omega, by omega, fun q => by omega⟩
                          · refine s_aload_n C dX10_conditionFault_195 rfl ?_
                            refine s_callVI (st := []) C (c_X10_isOpen l ad τ o hd ho (by omega)) cv_X10_269 y71 rfl rfl rfl ⟨by decide, by decide⟩ (Nat.le_of_ble_eq_true rfl) dX10_conditionFault_196 ?_
                            intro r478 τ479 h480
                            obtain ⟨eh480, h480⟩ := h480; replace eh480 := eh480.symm; subst eh480
                            have mh480 := h480.2
                            refine s_if_eq (tgt := 228) C dX10_conditionFault_199 (by decide) (fun q481 => ?_) (fun q481 => ?_)
                            · refine s_iload_n C dX10_conditionFault_228 rfl ?_
                              exact s_iret C X dX10_conditionFault_229 ⟨(Fr.tr Fr.rf (Fr.mo kF (by decide) (by decide))), by omega, by omega, fun q => by omega⟩
                            · refine s_aload_n C dX10_conditionFault_202 rfl ?_
                              refine s_callVV (st := []) C (c_X10_testEnds l ad τ o hd ho (by omega)) cv_X10_266 y71 rfl rfl rfl ⟨by decide, by decide⟩ (Nat.le_of_ble_eq_true rfl) dX10_conditionFault_203 ?_
                              intro τ483 h484
                              have dτ483 : Int32.toInt (τ483.1 71 49) = (te o).length := h484.2
                              have pτ483 : Op (τ483.1 109) (te o) := by rw [h484.1.a 109 (by decide) (by decide)]; exact Op_te o ho
                              have qτ483 := te_len o
                              obtain ⟨r6, hr6⟩ := te_hd (mh480.mp (by omega))
                              have hl6 : 1 ≤ (te o).length := by rw [hr6]; simp
                              refine s_aload_n C dX10_conditionFault_206 rfl ?_
                              refine s_dup C dX10_conditionFault_207 rfl ?_
                              refine s_get (k := 49) (x := (τ483.1 71 49)) C y71 fw_X10_260 rfl rfl dX10_conditionFault_208 ?_
                              refine s_iconst C dX10_conditionFault_211 (by decide) (fun z485 tz485 => ?_)
                              refine s_isub C dX10_conditionFault_212 (by omega) (fun z486 tz486 => ?_)
                              refine s_put (k := 49) C y71 fw_X10_260 fp_9_49 rfl dX10_conditionFault_213 ?_
                              refine s_aload_n C dX10_conditionFault_216 rfl ?_
                              refine s_callVV (st := []) C (c_X10_testEnds l ad (sV τ483 71 49 z486) (te o).tail (by show Int32.toInt z486 = _; rw [List.length_tail]; omega) (Op_tail _ pτ483) (by rw [List.length_tail]; omega)) cv_X10_266 y71 rfl rfl rfl ⟨by decide, by decide⟩ (Nat.le_of_ble_eq_true rfl) dX10_conditionFault_217 ?_
                              intro τ488 h489
                              have dτ488 : Int32.toInt (τ488.1 71 49) = (te (te o).tail).length := h489.2
                              have pτ488 : Op (τ488.1 109) (te (te o).tail) := by rw [h489.1.a 109 (by decide) (by decide)]; exact Op_te _ (Op_tail _ pτ483)
                              have qτ488 := te_len (te o).tail
                              have qqτ488 : (te o).tail.length = (te o).length - 1 := List.length_tail
                              skip
                              refine s_iconst C dX10_conditionFault_220 (by decide) (fun z490 tz490 => ?_)
                              refine s_istore_n C dX10_conditionFault_221 (by decide) (Nat.le_of_ble_eq_true rfl) rfl ?_
                              show WP E ad 222 [some (.ref (ad 71)), some (.int z490), some (.int z), some (.int (τ.1 86 z.toNatClampNeg))] [] τ488
                              refine s_iinc C dX10_conditionFault_222 rfl (by decide) rfl (by decide) (by omega) (fun z491 tz491 => ?_)
                              show WP E ad 225 [some (.ref (ad 71)), some (.int z490), some (.int z491), some (.int (τ.1 86 z.toNatClampNeg))] [] τ488
                              refine s_goto (tgt := 230) C dX10_conditionFault_225 (by decide) ?_
                              refine s_iload_n C dX10_conditionFault_230 rfl ?_
                              refine s_if_ge (tgt := 238) C dX10_conditionFault_231 (by decide) (fun q492 => ?_) (fun q492 => ?_)
                              · refine s_goto (tgt := 9) C dX10_conditionFault_238 (by decide) ?_
                                refine wp_le (lv' := [some (.ref (ad 71)), some (.int z490), some (.int z491), none]) ⟨rfl, ⟨rfl, ⟨rfl, trivial⟩⟩⟩ ?_
                                have ek1 : z491.toInt.toNat = z.toInt.toNat + 1 := by omega
                                exact ih τ488 (te (te o).tail) z490 z491 (Fr.tr (Fr.sV (Fr.tr (Fr.tr Fr.rf (Fr.mo kF (by decide) (by decide))) (Fr.mo h484.1 (by decide) (by decide))) (Or.inr (by decide))) (Fr.mo h489.1 (by decide) (by decide))) dτ488 pτ488 (by omega) (by omega) (by omega) (fun ⟨f, hf⟩ => hac ⟨f + 1, Or.inr ⟨by omega, Or.inr (Or.inr (Or.inr (Or.inr (Or.inr ⟨by omega, by omega, mh480.mp (by omega), (by rw [ek1, show z490.toInt.toNat = 3 by omega] at hf; exact hf)⟩))))⟩⟩) (by omega)
                              · refine s_iconst C dX10_conditionFault_234 (by decide) (fun z493 tz493 => ?_)
                                refine s_iload_n C dX10_conditionFault_235 rfl ?_
                                refine s_isub C dX10_conditionFault_236 (by omega) (fun z494 tz494 => ?_)
                                exact s_iret C X dX10_conditionFault_237 ⟨(Fr.tr (Fr.sV (Fr.tr (Fr.tr Fr.rf (Fr.mo kF (by decide) (by decide))) (Fr.mo h484.1 (by decide) (by decide))) (Or.inr (by decide))) (Fr.mo h489.1 (by decide) (by decide))), by omega, by omega, fun q => by omega⟩
                      · refine s_aload_n C dX10_conditionFault_172 rfl ?_
                        refine s_callVV (st := []) C (c_X10_testEnds l ad τ o hd ho (by omega)) cv_X10_266 y71 rfl rfl rfl ⟨by decide, by decide⟩ (Nat.le_of_ble_eq_true rfl) dX10_conditionFault_173 ?_
                        intro τ496 h497
                        have dτ496 : Int32.toInt (τ496.1 71 49) = (te o).length := h497.2
                        have pτ496 : Op (τ496.1 109) (te o) := by rw [h497.1.a 109 (by decide) (by decide)]; exact Op_te o ho
                        have qτ496 := te_len o
                        skip
                        refine s_iconst C dX10_conditionFault_176 (by decide) (fun z498 tz498 => ?_)
                        refine s_istore_n C dX10_conditionFault_177 (by decide) (Nat.le_of_ble_eq_true rfl) rfl ?_
                        show WP E ad 178 [some (.ref (ad 71)), some (.int z498), some (.int z), some (.int (τ.1 86 z.toNatClampNeg))] [] τ496
                        refine s_iinc C dX10_conditionFault_178 rfl (by decide) rfl (by decide) (by omega) (fun z499 tz499 => ?_)
                        show WP E ad 181 [some (.ref (ad 71)), some (.int z498), some (.int z499), some (.int (τ.1 86 z.toNatClampNeg))] [] τ496
                        refine s_goto (tgt := 230) C dX10_conditionFault_181 (by decide) ?_
                        refine s_iload_n C dX10_conditionFault_230 rfl ?_
                        refine s_if_ge (tgt := 238) C dX10_conditionFault_231 (by decide) (fun q500 => ?_) (fun q500 => ?_)
                        · refine s_goto (tgt := 9) C dX10_conditionFault_238 (by decide) ?_
                          refine wp_le (lv' := [some (.ref (ad 71)), some (.int z498), some (.int z499), none]) ⟨rfl, ⟨rfl, ⟨rfl, trivial⟩⟩⟩ ?_
                          have ek1 : z499.toInt.toNat = z.toInt.toNat + 1 := by omega
                          exact ih τ496 (te o) z498 z499 (Fr.tr (Fr.tr Fr.rf (Fr.mo kF (by decide) (by decide))) (Fr.mo h497.1 (by decide) (by decide))) dτ496 pτ496 (by omega) (by omega) (by omega) (fun ⟨f, hf⟩ => hac ⟨f + 1, Or.inr ⟨by omega, Or.inr (Or.inr (Or.inr (Or.inr (Or.inl ⟨by omega, by omega, (by rw [ek1, show z498.toInt.toNat = 0 by omega] at hf; exact hf)⟩))))⟩⟩) (by omega)
                        · refine s_iconst C dX10_conditionFault_234 (by decide) (fun z501 tz501 => ?_)
                          refine s_iload_n C dX10_conditionFault_235 rfl ?_
                          refine s_isub C dX10_conditionFault_236 (by omega) (fun z502 tz502 => ?_)
                          exact s_iret C X dX10_conditionFault_237 ⟨(Fr.tr (Fr.tr Fr.rf (Fr.mo kF (by decide) (by decide))) (Fr.mo h497.1 (by decide) (by decide))), by omega, by omega, fun q => by omega⟩
                · refine s_aload_n C dX10_conditionFault_142 rfl ?_
                  refine s_iload_n C dX10_conditionFault_143 rfl ?_
                  refine s_iconst C dX10_conditionFault_144 (by decide) (fun z503 tz503 => ?_)
                  refine s_iadd C dX10_conditionFault_145 (by omega) (fun z504 tz504 => ?_)
                  refine s_callVI (st := []) C (c_X10_behindUnit l ad τ z504 (by omega) (by omega) (by omega)) cv_X10_263 y71 rfl rfl rfl ⟨by decide, by decide⟩ (Nat.le_of_ble_eq_true rfl) dX10_conditionFault_146 ?_
                  intro r505 τ506 h507
                  obtain ⟨eh507, h507⟩ := h507; replace eh507 := eh507.symm; subst eh507
                  have uh507 := h507.2.2
                  rw [f0, f17, e86] at uh507
                  have vh507 : 0 ≤ Int32.toInt r505 → Int32.toInt r505 ≤ Int32.toInt (σ.1 71 17) := fun q => by have := un_le (uh507 q).2; omega
                  skip
                  refine s_istore_n C dX10_conditionFault_149 (by decide) (Nat.le_of_ble_eq_true rfl) rfl ?_
                  show WP E ad 150 [some (.ref (ad 71)), some (.int y), some (.int r505), some (.int (τ.1 86 z.toNatClampNeg))] [] τ
                  refine s_iconst C dX10_conditionFault_150 (by decide) (fun z508 tz508 => ?_)
                  refine s_istore_n C dX10_conditionFault_151 (by decide) (Nat.le_of_ble_eq_true rfl) rfl ?_
                  show WP E ad 152 [some (.ref (ad 71)), some (.int z508), some (.int r505), some (.int (τ.1 86 z.toNatClampNeg))] [] τ
                  refine s_goto (tgt := 230) C dX10_conditionFault_152 (by decide) ?_
                  refine s_iload_n C dX10_conditionFault_230 rfl ?_
                  refine s_if_ge (tgt := 238) C dX10_conditionFault_231 (by decide) (fun q509 => ?_) (fun q509 => ?_)
                  · refine s_goto (tgt := 9) C dX10_conditionFault_238 (by decide) ?_
                    refine wp_le (lv' := [some (.ref (ad 71)), some (.int z508), some (.int r505), none]) ⟨rfl, ⟨rfl, ⟨rfl, trivial⟩⟩⟩ ?_
                    have ez1 : z504.toInt.toNat = z.toInt.toNat + 1 := by omega
                    rw [ez1] at uh507
                    exact ih τ o z508 r505 (Fr.tr Fr.rf (Fr.mo kF (by decide) (by decide))) hd ho (by omega) (by omega) (by omega) (fun ⟨f, hf⟩ => hac ⟨f + 1, Or.inr ⟨by omega, Or.inr (Or.inr (Or.inr (Or.inl ⟨by omega, by omega, _, (uh507 (by omega)).2, (by rw [show z508.toInt.toNat = 2 by omega] at hf; exact hf)⟩)))⟩⟩) (by omega)
                  · refine s_iconst C dX10_conditionFault_234 (by decide) (fun z510 tz510 => ?_)
                    refine s_iload_n C dX10_conditionFault_235 rfl ?_
                    refine s_isub C dX10_conditionFault_236 (by omega) (fun z511 tz511 => ?_)
                    exact s_iret C X dX10_conditionFault_237 ⟨(Fr.tr Fr.rf (Fr.mo kF (by decide) (by decide))), by omega, by omega, fun q => by omega⟩
              · refine s_iload_n C dX10_conditionFault_125 rfl ?_
                refine s_bipush C dX10_conditionFault_126 (by decide) (fun z512 tz512 => ?_)
                refine s_icmp_eq (tgt := 137) C dX10_conditionFault_128 (by decide) (fun q513 => ?_) (fun q513 => ?_)
                · refine s_iload_n C dX10_conditionFault_137 rfl ?_
                  refine s_iconst C dX10_conditionFault_138 (by decide) (fun z514 tz514 => ?_)
                  refine s_icmp_ne (tgt := 155) C dX10_conditionFault_139 (by decide) (fun q515 => ?_) (fun q515 => ?_)
                  · refine s_iload_n C dX10_conditionFault_155 rfl ?_
                    refine s_bipush C dX10_conditionFault_156 (by decide) (fun z516 tz516 => ?_)
                    refine s_icmp_eq (tgt := 167) C dX10_conditionFault_158 (by decide) (fun q517 => ?_) (fun q517 => ?_)
                    · refine s_iload_n C dX10_conditionFault_167 rfl ?_
                      refine s_iconst C dX10_conditionFault_168 (by decide) (fun z518 tz518 => ?_)
                      refine s_icmp_le (tgt := 184) C dX10_conditionFault_169 (by decide) (fun q519 => ?_) (fun q519 => ?_)
                      · refine s_iload_n C dX10_conditionFault_184 rfl ?_
                        refine s_bipush C dX10_conditionFault_185 (by decide) (fun z520 tz520 => ?_)
                        refine s_icmp_ne (tgt := 228) C dX10_conditionFault_187 (by decide) (fun q521 => ?_) (fun q521 => ?_)
                        · refine s_iload_n C dX10_conditionFault_228 rfl ?_
                          exact s_iret C X dX10_conditionFault_229 ⟨(Fr.tr Fr.rf (Fr.mo kF (by decide) (by decide))), by omega, by omega, fun q => by omega⟩
                        · refine s_iload_n C dX10_conditionFault_190 rfl ?_
                          refine s_iconst C dX10_conditionFault_191 (by decide) (fun z522 tz522 => ?_)
                          refine s_icmp_le (tgt := 228) C dX10_conditionFault_192 (by decide) (fun q523 => ?_) (fun q523 => ?_)
                          · refine s_iload_n C dX10_conditionFault_228 rfl ?_
                            exact s_iret C X dX10_conditionFault_229 ⟨(Fr.tr Fr.rf (Fr.mo kF (by decide) (by decide))), by omega, by omega, fun q => by omega⟩
                          · refine s_aload_n C dX10_conditionFault_195 rfl ?_
                            refine s_callVI (st := []) C (c_X10_isOpen l ad τ o hd ho (by omega)) cv_X10_269 y71 rfl rfl rfl ⟨by decide, by decide⟩ (Nat.le_of_ble_eq_true rfl) dX10_conditionFault_196 ?_
                            intro r524 τ525 h526
                            obtain ⟨eh526, h526⟩ := h526; replace eh526 := eh526.symm; subst eh526
                            have mh526 := h526.2
                            refine s_if_eq (tgt := 228) C dX10_conditionFault_199 (by decide) (fun q527 => ?_) (fun q527 => ?_)
                            · refine s_iload_n C dX10_conditionFault_228 rfl ?_
                              exact s_iret C X dX10_conditionFault_229 ⟨(Fr.tr Fr.rf (Fr.mo kF (by decide) (by decide))), by omega, by omega, fun q => by omega⟩
                            · refine s_aload_n C dX10_conditionFault_202 rfl ?_
                              refine s_callVV (st := []) C (c_X10_testEnds l ad τ o hd ho (by omega)) cv_X10_266 y71 rfl rfl rfl ⟨by decide, by decide⟩ (Nat.le_of_ble_eq_true rfl) dX10_conditionFault_203 ?_
                              intro τ529 h530
                              have dτ529 : Int32.toInt (τ529.1 71 49) = (te o).length := h530.2
                              have pτ529 : Op (τ529.1 109) (te o) := by rw [h530.1.a 109 (by decide) (by decide)]; exact Op_te o ho
                              have qτ529 := te_len o
                              obtain ⟨r6, hr6⟩ := te_hd (mh526.mp (by omega))
                              have hl6 : 1 ≤ (te o).length := by rw [hr6]; simp
                              refine s_aload_n C dX10_conditionFault_206 rfl ?_
                              refine s_dup C dX10_conditionFault_207 rfl ?_
                              refine s_get (k := 49) (x := (τ529.1 71 49)) C y71 fw_X10_260 rfl rfl dX10_conditionFault_208 ?_
                              refine s_iconst C dX10_conditionFault_211 (by decide) (fun z531 tz531 => ?_)
                              refine s_isub C dX10_conditionFault_212 (by omega) (fun z532 tz532 => ?_)
                              refine s_put (k := 49) C y71 fw_X10_260 fp_9_49 rfl dX10_conditionFault_213 ?_
                              refine s_aload_n C dX10_conditionFault_216 rfl ?_
                              refine s_callVV (st := []) C (c_X10_testEnds l ad (sV τ529 71 49 z532) (te o).tail (by show Int32.toInt z532 = _; rw [List.length_tail]; omega) (Op_tail _ pτ529) (by rw [List.length_tail]; omega)) cv_X10_266 y71 rfl rfl rfl ⟨by decide, by decide⟩ (Nat.le_of_ble_eq_true rfl) dX10_conditionFault_217 ?_
                              intro τ534 h535
                              have dτ534 : Int32.toInt (τ534.1 71 49) = (te (te o).tail).length := h535.2
                              have pτ534 : Op (τ534.1 109) (te (te o).tail) := by rw [h535.1.a 109 (by decide) (by decide)]; exact Op_te _ (Op_tail _ pτ529)
                              have qτ534 := te_len (te o).tail
                              have qqτ534 : (te o).tail.length = (te o).length - 1 := List.length_tail
                              skip
                              refine s_iconst C dX10_conditionFault_220 (by decide) (fun z536 tz536 => ?_)
                              refine s_istore_n C dX10_conditionFault_221 (by decide) (Nat.le_of_ble_eq_true rfl) rfl ?_
                              show WP E ad 222 [some (.ref (ad 71)), some (.int z536), some (.int z), some (.int (τ.1 86 z.toNatClampNeg))] [] τ534
                              refine s_iinc C dX10_conditionFault_222 rfl (by decide) rfl (by decide) (by omega) (fun z537 tz537 => ?_)
                              show WP E ad 225 [some (.ref (ad 71)), some (.int z536), some (.int z537), some (.int (τ.1 86 z.toNatClampNeg))] [] τ534
                              refine s_goto (tgt := 230) C dX10_conditionFault_225 (by decide) ?_
                              refine s_iload_n C dX10_conditionFault_230 rfl ?_
                              refine s_if_ge (tgt := 238) C dX10_conditionFault_231 (by decide) (fun q538 => ?_) (fun q538 => ?_)
                              · refine s_goto (tgt := 9) C dX10_conditionFault_238 (by decide) ?_
                                refine wp_le (lv' := [some (.ref (ad 71)), some (.int z536), some (.int z537), none]) ⟨rfl, ⟨rfl, ⟨rfl, trivial⟩⟩⟩ ?_
                                have ek1 : z537.toInt.toNat = z.toInt.toNat + 1 := by omega
                                exact ih τ534 (te (te o).tail) z536 z537 (Fr.tr (Fr.sV (Fr.tr (Fr.tr Fr.rf (Fr.mo kF (by decide) (by decide))) (Fr.mo h530.1 (by decide) (by decide))) (Or.inr (by decide))) (Fr.mo h535.1 (by decide) (by decide))) dτ534 pτ534 (by omega) (by omega) (by omega) (fun ⟨f, hf⟩ => hac ⟨f + 1, Or.inr ⟨by omega, Or.inr (Or.inr (Or.inr (Or.inr (Or.inr ⟨by omega, by omega, mh526.mp (by omega), (by rw [ek1, show z536.toInt.toNat = 3 by omega] at hf; exact hf)⟩))))⟩⟩) (by omega)
                              · refine s_iconst C dX10_conditionFault_234 (by decide) (fun z539 tz539 => ?_)
                                refine s_iload_n C dX10_conditionFault_235 rfl ?_
                                refine s_isub C dX10_conditionFault_236 (by omega) (fun z540 tz540 => ?_)
                                exact s_iret C X dX10_conditionFault_237 ⟨(Fr.tr (Fr.sV (Fr.tr (Fr.tr Fr.rf (Fr.mo kF (by decide) (by decide))) (Fr.mo h530.1 (by decide) (by decide))) (Or.inr (by decide))) (Fr.mo h535.1 (by decide) (by decide))), by omega, by omega, fun q => by omega⟩
                      · refine s_aload_n C dX10_conditionFault_172 rfl ?_
                        refine s_callVV (st := []) C (c_X10_testEnds l ad τ o hd ho (by omega)) cv_X10_266 y71 rfl rfl rfl ⟨by decide, by decide⟩ (Nat.le_of_ble_eq_true rfl) dX10_conditionFault_173 ?_
                        intro τ542 h543
                        have dτ542 : Int32.toInt (τ542.1 71 49) = (te o).length := h543.2
                        have pτ542 : Op (τ542.1 109) (te o) := by rw [h543.1.a 109 (by decide) (by decide)]; exact Op_te o ho
                        have qτ542 := te_len o
                        skip
                        refine s_iconst C dX10_conditionFault_176 (by decide) (fun z544 tz544 => ?_)
                        refine s_istore_n C dX10_conditionFault_177 (by decide) (Nat.le_of_ble_eq_true rfl) rfl ?_
                        show WP E ad 178 [some (.ref (ad 71)), some (.int z544), some (.int z), some (.int (τ.1 86 z.toNatClampNeg))] [] τ542
                        refine s_iinc C dX10_conditionFault_178 rfl (by decide) rfl (by decide) (by omega) (fun z545 tz545 => ?_)
                        show WP E ad 181 [some (.ref (ad 71)), some (.int z544), some (.int z545), some (.int (τ.1 86 z.toNatClampNeg))] [] τ542
                        refine s_goto (tgt := 230) C dX10_conditionFault_181 (by decide) ?_
                        refine s_iload_n C dX10_conditionFault_230 rfl ?_
                        refine s_if_ge (tgt := 238) C dX10_conditionFault_231 (by decide) (fun q546 => ?_) (fun q546 => ?_)
                        · refine s_goto (tgt := 9) C dX10_conditionFault_238 (by decide) ?_
                          refine wp_le (lv' := [some (.ref (ad 71)), some (.int z544), some (.int z545), none]) ⟨rfl, ⟨rfl, ⟨rfl, trivial⟩⟩⟩ ?_
                          have ek1 : z545.toInt.toNat = z.toInt.toNat + 1 := by omega
                          exact ih τ542 (te o) z544 z545 (Fr.tr (Fr.tr Fr.rf (Fr.mo kF (by decide) (by decide))) (Fr.mo h543.1 (by decide) (by decide))) dτ542 pτ542 (by omega) (by omega) (by omega) (fun ⟨f, hf⟩ => hac ⟨f + 1, Or.inr ⟨by omega, Or.inr (Or.inr (Or.inr (Or.inr (Or.inl ⟨by omega, by omega, (by rw [ek1, show z544.toInt.toNat = 0 by omega] at hf; exact hf)⟩))))⟩⟩) (by omega)
                        · refine s_iconst C dX10_conditionFault_234 (by decide) (fun z547 tz547 => ?_)
                          refine s_iload_n C dX10_conditionFault_235 rfl ?_
                          refine s_isub C dX10_conditionFault_236 (by omega) (fun z548 tz548 => ?_)
                          exact s_iret C X dX10_conditionFault_237 ⟨(Fr.tr (Fr.tr Fr.rf (Fr.mo kF (by decide) (by decide))) (Fr.mo h543.1 (by decide) (by decide))), by omega, by omega, fun q => by omega⟩
                    · refine s_iload_n C dX10_conditionFault_161 rfl ?_
                      refine s_bipush C dX10_conditionFault_162 (by decide) (fun z549 tz549 => ?_)
                      refine s_icmp_ne (tgt := 184) C dX10_conditionFault_164 (by decide) (fun q550 => ?_) (fun q550 => ?_)
                      · refine s_iload_n C dX10_conditionFault_184 rfl ?_
                        refine s_bipush C dX10_conditionFault_185 (by decide) (fun z551 tz551 => ?_)
                        refine s_icmp_ne (tgt := 228) C dX10_conditionFault_187 (by decide) (fun q552 => ?_) (fun q552 => ?_)
                        · refine s_iload_n C dX10_conditionFault_228 rfl ?_
                          exact s_iret C X dX10_conditionFault_229 ⟨(Fr.tr Fr.rf (Fr.mo kF (by decide) (by decide))), by omega, by omega, fun q => by omega⟩
                        · refine s_iload_n C dX10_conditionFault_190 rfl ?_
                          refine s_iconst C dX10_conditionFault_191 (by decide) (fun z553 tz553 => ?_)
                          refine s_icmp_le (tgt := 228) C dX10_conditionFault_192 (by decide) (fun q554 => ?_) (fun q554 => ?_)
                          · refine s_iload_n C dX10_conditionFault_228 rfl ?_
                            exact s_iret C X dX10_conditionFault_229 ⟨(Fr.tr Fr.rf (Fr.mo kF (by decide) (by decide))), by omega, by omega, fun q => by omega⟩
                          · refine s_aload_n C dX10_conditionFault_195 rfl ?_
                            refine s_callVI (st := []) C (c_X10_isOpen l ad τ o hd ho (by omega)) cv_X10_269 y71 rfl rfl rfl ⟨by decide, by decide⟩ (Nat.le_of_ble_eq_true rfl) dX10_conditionFault_196 ?_
                            intro r555 τ556 h557
                            obtain ⟨eh557, h557⟩ := h557; replace eh557 := eh557.symm; subst eh557
                            have mh557 := h557.2
                            refine s_if_eq (tgt := 228) C dX10_conditionFault_199 (by decide) (fun q558 => ?_) (fun q558 => ?_)
                            · refine s_iload_n C dX10_conditionFault_228 rfl ?_
                              exact s_iret C X dX10_conditionFault_229 ⟨(Fr.tr Fr.rf (Fr.mo kF (by decide) (by decide))), by omega, by omega, fun q => by omega⟩
                            · refine s_aload_n C dX10_conditionFault_202 rfl ?_
                              refine s_callVV (st := []) C (c_X10_testEnds l ad τ o hd ho (by omega)) cv_X10_266 y71 rfl rfl rfl ⟨by decide, by decide⟩ (Nat.le_of_ble_eq_true rfl) dX10_conditionFault_203 ?_
                              intro τ560 h561
                              have dτ560 : Int32.toInt (τ560.1 71 49) = (te o).length := h561.2
                              have pτ560 : Op (τ560.1 109) (te o) := by rw [h561.1.a 109 (by decide) (by decide)]; exact Op_te o ho
                              have qτ560 := te_len o
                              obtain ⟨r6, hr6⟩ := te_hd (mh557.mp (by omega))
                              have hl6 : 1 ≤ (te o).length := by rw [hr6]; simp
                              refine s_aload_n C dX10_conditionFault_206 rfl ?_
                              refine s_dup C dX10_conditionFault_207 rfl ?_
                              refine s_get (k := 49) (x := (τ560.1 71 49)) C y71 fw_X10_260 rfl rfl dX10_conditionFault_208 ?_
                              refine s_iconst C dX10_conditionFault_211 (by decide) (fun z562 tz562 => ?_)
                              refine s_isub C dX10_conditionFault_212 (by omega) (fun z563 tz563 => ?_)
                              refine s_put (k := 49) C y71 fw_X10_260 fp_9_49 rfl dX10_conditionFault_213 ?_
                              refine s_aload_n C dX10_conditionFault_216 rfl ?_
                              refine s_callVV (st := []) C (c_X10_testEnds l ad (sV τ560 71 49 z563) (te o).tail (by show Int32.toInt z563 = _; rw [List.length_tail]; omega) (Op_tail _ pτ560) (by rw [List.length_tail]; omega)) cv_X10_266 y71 rfl rfl rfl ⟨by decide, by decide⟩ (Nat.le_of_ble_eq_true rfl) dX10_conditionFault_217 ?_
                              intro τ565 h566
                              have dτ565 : Int32.toInt (τ565.1 71 49) = (te (te o).tail).length := h566.2
                              have pτ565 : Op (τ565.1 109) (te (te o).tail) := by rw [h566.1.a 109 (by decide) (by decide)]; exact Op_te _ (Op_tail _ pτ560)
                              have qτ565 := te_len (te o).tail
                              have qqτ565 : (te o).tail.length = (te o).length - 1 := List.length_tail
                              skip
                              refine s_iconst C dX10_conditionFault_220 (by decide) (fun z567 tz567 => ?_)
                              refine s_istore_n C dX10_conditionFault_221 (by decide) (Nat.le_of_ble_eq_true rfl) rfl ?_
                              show WP E ad 222 [some (.ref (ad 71)), some (.int z567), some (.int z), some (.int (τ.1 86 z.toNatClampNeg))] [] τ565
                              refine s_iinc C dX10_conditionFault_222 rfl (by decide) rfl (by decide) (by omega) (fun z568 tz568 => ?_)
                              show WP E ad 225 [some (.ref (ad 71)), some (.int z567), some (.int z568), some (.int (τ.1 86 z.toNatClampNeg))] [] τ565
                              refine s_goto (tgt := 230) C dX10_conditionFault_225 (by decide) ?_
                              refine s_iload_n C dX10_conditionFault_230 rfl ?_
                              refine s_if_ge (tgt := 238) C dX10_conditionFault_231 (by decide) (fun q569 => ?_) (fun q569 => ?_)
                              · refine s_goto (tgt := 9) C dX10_conditionFault_238 (by decide) ?_
                                refine wp_le (lv' := [some (.ref (ad 71)), some (.int z567), some (.int z568), none]) ⟨rfl, ⟨rfl, ⟨rfl, trivial⟩⟩⟩ ?_
                                have ek1 : z568.toInt.toNat = z.toInt.toNat + 1 := by omega
                                exact ih τ565 (te (te o).tail) z567 z568 (Fr.tr (Fr.sV (Fr.tr (Fr.tr Fr.rf (Fr.mo kF (by decide) (by decide))) (Fr.mo h561.1 (by decide) (by decide))) (Or.inr (by decide))) (Fr.mo h566.1 (by decide) (by decide))) dτ565 pτ565 (by omega) (by omega) (by omega) (fun ⟨f, hf⟩ => hac ⟨f + 1, Or.inr ⟨by omega, Or.inr (Or.inr (Or.inr (Or.inr (Or.inr ⟨by omega, by omega, mh557.mp (by omega), (by rw [ek1, show z567.toInt.toNat = 3 by omega] at hf; exact hf)⟩))))⟩⟩) (by omega)
                              · refine s_iconst C dX10_conditionFault_234 (by decide) (fun z570 tz570 => ?_)
                                refine s_iload_n C dX10_conditionFault_235 rfl ?_
                                refine s_isub C dX10_conditionFault_236 (by omega) (fun z571 tz571 => ?_)
                                exact s_iret C X dX10_conditionFault_237 ⟨(Fr.tr (Fr.sV (Fr.tr (Fr.tr Fr.rf (Fr.mo kF (by decide) (by decide))) (Fr.mo h561.1 (by decide) (by decide))) (Or.inr (by decide))) (Fr.mo h566.1 (by decide) (by decide))), by omega, by omega, fun q => by omega⟩
                      · refine s_iload_n C dX10_conditionFault_167 rfl ?_
                        refine s_iconst C dX10_conditionFault_168 (by decide) (fun z572 tz572 => ?_)
                        refine s_icmp_le (tgt := 184) C dX10_conditionFault_169 (by decide) (fun q573 => ?_) (fun q573 => ?_)
                        · refine s_iload_n C dX10_conditionFault_184 rfl ?_
                          refine s_bipush C dX10_conditionFault_185 (by decide) (fun z574 tz574 => ?_)
                          refine s_icmp_ne (tgt := 228) C dX10_conditionFault_187 (by decide) (fun q575 => ?_) (fun q575 => ?_)
                          · refine s_iload_n C dX10_conditionFault_228 rfl ?_
                            exact s_iret C X dX10_conditionFault_229 ⟨(Fr.tr Fr.rf (Fr.mo kF (by decide) (by decide))), by omega, by omega, fun q => by omega⟩
                          · refine s_iload_n C dX10_conditionFault_190 rfl ?_
                            refine s_iconst C dX10_conditionFault_191 (by decide) (fun z576 tz576 => ?_)
                            refine s_icmp_le (tgt := 228) C dX10_conditionFault_192 (by decide) (fun q577 => ?_) (fun q577 => ?_)
                            · refine s_iload_n C dX10_conditionFault_228 rfl ?_
                              exact s_iret C X dX10_conditionFault_229 ⟨(Fr.tr Fr.rf (Fr.mo kF (by decide) (by decide))), by omega, by omega, fun q => by omega⟩
                            · refine s_aload_n C dX10_conditionFault_195 rfl ?_
                              refine s_callVI (st := []) C (c_X10_isOpen l ad τ o hd ho (by omega)) cv_X10_269 y71 rfl rfl rfl ⟨by decide, by decide⟩ (Nat.le_of_ble_eq_true rfl) dX10_conditionFault_196 ?_
                              intro r578 τ579 h580
                              obtain ⟨eh580, h580⟩ := h580; replace eh580 := eh580.symm; subst eh580
                              have mh580 := h580.2
                              refine s_if_eq (tgt := 228) C dX10_conditionFault_199 (by decide) (fun q581 => ?_) (fun q581 => ?_)
                              · refine s_iload_n C dX10_conditionFault_228 rfl ?_
                                exact s_iret C X dX10_conditionFault_229 ⟨(Fr.tr Fr.rf (Fr.mo kF (by decide) (by decide))), by omega, by omega, fun q => by omega⟩
                              · refine s_aload_n C dX10_conditionFault_202 rfl ?_
                                refine s_callVV (st := []) C (c_X10_testEnds l ad τ o hd ho (by omega)) cv_X10_266 y71 rfl rfl rfl ⟨by decide, by decide⟩ (Nat.le_of_ble_eq_true rfl) dX10_conditionFault_203 ?_
                                intro τ583 h584
                                have dτ583 : Int32.toInt (τ583.1 71 49) = (te o).length := h584.2
                                have pτ583 : Op (τ583.1 109) (te o) := by rw [h584.1.a 109 (by decide) (by decide)]; exact Op_te o ho
                                have qτ583 := te_len o
                                obtain ⟨r6, hr6⟩ := te_hd (mh580.mp (by omega))
                                have hl6 : 1 ≤ (te o).length := by rw [hr6]; simp
                                refine s_aload_n C dX10_conditionFault_206 rfl ?_
                                refine s_dup C dX10_conditionFault_207 rfl ?_
                                refine s_get (k := 49) (x := (τ583.1 71 49)) C y71 fw_X10_260 rfl rfl dX10_conditionFault_208 ?_
                                refine s_iconst C dX10_conditionFault_211 (by decide) (fun z585 tz585 => ?_)
                                refine s_isub C dX10_conditionFault_212 (by omega) (fun z586 tz586 => ?_)
                                refine s_put (k := 49) C y71 fw_X10_260 fp_9_49 rfl dX10_conditionFault_213 ?_
                                refine s_aload_n C dX10_conditionFault_216 rfl ?_
                                refine s_callVV (st := []) C (c_X10_testEnds l ad (sV τ583 71 49 z586) (te o).tail (by show Int32.toInt z586 = _; rw [List.length_tail]; omega) (Op_tail _ pτ583) (by rw [List.length_tail]; omega)) cv_X10_266 y71 rfl rfl rfl ⟨by decide, by decide⟩ (Nat.le_of_ble_eq_true rfl) dX10_conditionFault_217 ?_
                                intro τ588 h589
                                have dτ588 : Int32.toInt (τ588.1 71 49) = (te (te o).tail).length := h589.2
                                have pτ588 : Op (τ588.1 109) (te (te o).tail) := by rw [h589.1.a 109 (by decide) (by decide)]; exact Op_te _ (Op_tail _ pτ583)
                                have qτ588 := te_len (te o).tail
                                have qqτ588 : (te o).tail.length = (te o).length - 1 := List.length_tail
                                skip
                                refine s_iconst C dX10_conditionFault_220 (by decide) (fun z590 tz590 => ?_)
                                refine s_istore_n C dX10_conditionFault_221 (by decide) (Nat.le_of_ble_eq_true rfl) rfl ?_
                                show WP E ad 222 [some (.ref (ad 71)), some (.int z590), some (.int z), some (.int (τ.1 86 z.toNatClampNeg))] [] τ588
                                refine s_iinc C dX10_conditionFault_222 rfl (by decide) rfl (by decide) (by omega) (fun z591 tz591 => ?_)
                                show WP E ad 225 [some (.ref (ad 71)), some (.int z590), some (.int z591), some (.int (τ.1 86 z.toNatClampNeg))] [] τ588
                                refine s_goto (tgt := 230) C dX10_conditionFault_225 (by decide) ?_
                                refine s_iload_n C dX10_conditionFault_230 rfl ?_
                                refine s_if_ge (tgt := 238) C dX10_conditionFault_231 (by decide) (fun q592 => ?_) (fun q592 => ?_)
                                · refine s_goto (tgt := 9) C dX10_conditionFault_238 (by decide) ?_
                                  refine wp_le (lv' := [some (.ref (ad 71)), some (.int z590), some (.int z591), none]) ⟨rfl, ⟨rfl, ⟨rfl, trivial⟩⟩⟩ ?_
                                  have ek1 : z591.toInt.toNat = z.toInt.toNat + 1 := by omega
                                  exact ih τ588 (te (te o).tail) z590 z591 (Fr.tr (Fr.sV (Fr.tr (Fr.tr Fr.rf (Fr.mo kF (by decide) (by decide))) (Fr.mo h584.1 (by decide) (by decide))) (Or.inr (by decide))) (Fr.mo h589.1 (by decide) (by decide))) dτ588 pτ588 (by omega) (by omega) (by omega) (fun ⟨f, hf⟩ => hac ⟨f + 1, Or.inr ⟨by omega, Or.inr (Or.inr (Or.inr (Or.inr (Or.inr ⟨by omega, by omega, mh580.mp (by omega), (by rw [ek1, show z590.toInt.toNat = 3 by omega] at hf; exact hf)⟩))))⟩⟩) (by omega)
                                · refine s_iconst C dX10_conditionFault_234 (by decide) (fun z593 tz593 => ?_)
                                  refine s_iload_n C dX10_conditionFault_235 rfl ?_
                                  refine s_isub C dX10_conditionFault_236 (by omega) (fun z594 tz594 => ?_)
                                  exact s_iret C X dX10_conditionFault_237 ⟨(Fr.tr (Fr.sV (Fr.tr (Fr.tr Fr.rf (Fr.mo kF (by decide) (by decide))) (Fr.mo h584.1 (by decide) (by decide))) (Or.inr (by decide))) (Fr.mo h589.1 (by decide) (by decide))), by omega, by omega, fun q => by omega⟩
                        · refine s_aload_n C dX10_conditionFault_172 rfl ?_
                          refine s_callVV (st := []) C (c_X10_testEnds l ad τ o hd ho (by omega)) cv_X10_266 y71 rfl rfl rfl ⟨by decide, by decide⟩ (Nat.le_of_ble_eq_true rfl) dX10_conditionFault_173 ?_
                          intro τ596 h597
                          have dτ596 : Int32.toInt (τ596.1 71 49) = (te o).length := h597.2
                          have pτ596 : Op (τ596.1 109) (te o) := by rw [h597.1.a 109 (by decide) (by decide)]; exact Op_te o ho
                          have qτ596 := te_len o
                          skip
                          refine s_iconst C dX10_conditionFault_176 (by decide) (fun z598 tz598 => ?_)
                          refine s_istore_n C dX10_conditionFault_177 (by decide) (Nat.le_of_ble_eq_true rfl) rfl ?_
                          show WP E ad 178 [some (.ref (ad 71)), some (.int z598), some (.int z), some (.int (τ.1 86 z.toNatClampNeg))] [] τ596
                          refine s_iinc C dX10_conditionFault_178 rfl (by decide) rfl (by decide) (by omega) (fun z599 tz599 => ?_)
                          show WP E ad 181 [some (.ref (ad 71)), some (.int z598), some (.int z599), some (.int (τ.1 86 z.toNatClampNeg))] [] τ596
                          refine s_goto (tgt := 230) C dX10_conditionFault_181 (by decide) ?_
                          refine s_iload_n C dX10_conditionFault_230 rfl ?_
                          refine s_if_ge (tgt := 238) C dX10_conditionFault_231 (by decide) (fun q600 => ?_) (fun q600 => ?_)
                          · refine s_goto (tgt := 9) C dX10_conditionFault_238 (by decide) ?_
                            refine wp_le (lv' := [some (.ref (ad 71)), some (.int z598), some (.int z599), none]) ⟨rfl, ⟨rfl, ⟨rfl, trivial⟩⟩⟩ ?_
                            have ek1 : z599.toInt.toNat = z.toInt.toNat + 1 := by omega
                            exact ih τ596 (te o) z598 z599 (Fr.tr (Fr.tr Fr.rf (Fr.mo kF (by decide) (by decide))) (Fr.mo h597.1 (by decide) (by decide))) dτ596 pτ596 (by omega) (by omega) (by omega) (fun ⟨f, hf⟩ => hac ⟨f + 1, Or.inr ⟨by omega, Or.inr (Or.inr (Or.inr (Or.inr (Or.inl ⟨by omega, by omega, (by rw [ek1, show z598.toInt.toNat = 0 by omega] at hf; exact hf)⟩))))⟩⟩) (by omega)
                          · refine s_iconst C dX10_conditionFault_234 (by decide) (fun z601 tz601 => ?_)
                            refine s_iload_n C dX10_conditionFault_235 rfl ?_
                            refine s_isub C dX10_conditionFault_236 (by omega) (fun z602 tz602 => ?_)
                            exact s_iret C X dX10_conditionFault_237 ⟨(Fr.tr (Fr.tr Fr.rf (Fr.mo kF (by decide) (by decide))) (Fr.mo h597.1 (by decide) (by decide))), by omega, by omega, fun q => by omega⟩
                  · refine s_aload_n C dX10_conditionFault_142 rfl ?_
                    refine s_iload_n C dX10_conditionFault_143 rfl ?_
                    refine s_iconst C dX10_conditionFault_144 (by decide) (fun z603 tz603 => ?_)
                    refine s_iadd C dX10_conditionFault_145 (by omega) (fun z604 tz604 => ?_)
                    refine s_callVI (st := []) C (c_X10_behindUnit l ad τ z604 (by omega) (by omega) (by omega)) cv_X10_263 y71 rfl rfl rfl ⟨by decide, by decide⟩ (Nat.le_of_ble_eq_true rfl) dX10_conditionFault_146 ?_
                    intro r605 τ606 h607
                    obtain ⟨eh607, h607⟩ := h607; replace eh607 := eh607.symm; subst eh607
                    have uh607 := h607.2.2
                    rw [f0, f17, e86] at uh607
                    have vh607 : 0 ≤ Int32.toInt r605 → Int32.toInt r605 ≤ Int32.toInt (σ.1 71 17) := fun q => by have := un_le (uh607 q).2; omega
                    skip
                    refine s_istore_n C dX10_conditionFault_149 (by decide) (Nat.le_of_ble_eq_true rfl) rfl ?_
                    show WP E ad 150 [some (.ref (ad 71)), some (.int y), some (.int r605), some (.int (τ.1 86 z.toNatClampNeg))] [] τ
                    refine s_iconst C dX10_conditionFault_150 (by decide) (fun z608 tz608 => ?_)
                    refine s_istore_n C dX10_conditionFault_151 (by decide) (Nat.le_of_ble_eq_true rfl) rfl ?_
                    show WP E ad 152 [some (.ref (ad 71)), some (.int z608), some (.int r605), some (.int (τ.1 86 z.toNatClampNeg))] [] τ
                    refine s_goto (tgt := 230) C dX10_conditionFault_152 (by decide) ?_
                    refine s_iload_n C dX10_conditionFault_230 rfl ?_
                    refine s_if_ge (tgt := 238) C dX10_conditionFault_231 (by decide) (fun q609 => ?_) (fun q609 => ?_)
                    · refine s_goto (tgt := 9) C dX10_conditionFault_238 (by decide) ?_
                      refine wp_le (lv' := [some (.ref (ad 71)), some (.int z608), some (.int r605), none]) ⟨rfl, ⟨rfl, ⟨rfl, trivial⟩⟩⟩ ?_
                      have ez1 : z604.toInt.toNat = z.toInt.toNat + 1 := by omega
                      rw [ez1] at uh607
                      exact ih τ o z608 r605 (Fr.tr Fr.rf (Fr.mo kF (by decide) (by decide))) hd ho (by omega) (by omega) (by omega) (fun ⟨f, hf⟩ => hac ⟨f + 1, Or.inr ⟨by omega, Or.inr (Or.inr (Or.inr (Or.inl ⟨by omega, by omega, _, (uh607 (by omega)).2, (by rw [show z608.toInt.toNat = 2 by omega] at hf; exact hf)⟩)))⟩⟩) (by omega)
                    · refine s_iconst C dX10_conditionFault_234 (by decide) (fun z610 tz610 => ?_)
                      refine s_iload_n C dX10_conditionFault_235 rfl ?_
                      refine s_isub C dX10_conditionFault_236 (by omega) (fun z611 tz611 => ?_)
                      exact s_iret C X dX10_conditionFault_237 ⟨(Fr.tr Fr.rf (Fr.mo kF (by decide) (by decide))), by omega, by omega, fun q => by omega⟩
                · refine s_iload_n C dX10_conditionFault_131 rfl ?_
                  refine s_bipush C dX10_conditionFault_132 (by decide) (fun z612 tz612 => ?_)
                  refine s_icmp_ne (tgt := 155) C dX10_conditionFault_134 (by decide) (fun q613 => ?_) (fun q613 => ?_)
                  · refine s_iload_n C dX10_conditionFault_155 rfl ?_
                    refine s_bipush C dX10_conditionFault_156 (by decide) (fun z614 tz614 => ?_)
                    refine s_icmp_eq (tgt := 167) C dX10_conditionFault_158 (by decide) (fun q615 => ?_) (fun q615 => ?_)
                    · refine s_iload_n C dX10_conditionFault_167 rfl ?_
                      refine s_iconst C dX10_conditionFault_168 (by decide) (fun z616 tz616 => ?_)
                      refine s_icmp_le (tgt := 184) C dX10_conditionFault_169 (by decide) (fun q617 => ?_) (fun q617 => ?_)
                      · refine s_iload_n C dX10_conditionFault_184 rfl ?_
                        refine s_bipush C dX10_conditionFault_185 (by decide) (fun z618 tz618 => ?_)
                        refine s_icmp_ne (tgt := 228) C dX10_conditionFault_187 (by decide) (fun q619 => ?_) (fun q619 => ?_)
                        · refine s_iload_n C dX10_conditionFault_228 rfl ?_
                          exact s_iret C X dX10_conditionFault_229 ⟨(Fr.tr Fr.rf (Fr.mo kF (by decide) (by decide))), by omega, by omega, fun q => by omega⟩
                        · refine s_iload_n C dX10_conditionFault_190 rfl ?_
                          refine s_iconst C dX10_conditionFault_191 (by decide) (fun z620 tz620 => ?_)
                          refine s_icmp_le (tgt := 228) C dX10_conditionFault_192 (by decide) (fun q621 => ?_) (fun q621 => ?_)
                          · refine s_iload_n C dX10_conditionFault_228 rfl ?_
                            exact s_iret C X dX10_conditionFault_229 ⟨(Fr.tr Fr.rf (Fr.mo kF (by decide) (by decide))), by omega, by omega, fun q => by omega⟩
                          · refine s_aload_n C dX10_conditionFault_195 rfl ?_
                            refine s_callVI (st := []) C (c_X10_isOpen l ad τ o hd ho (by omega)) cv_X10_269 y71 rfl rfl rfl ⟨by decide, by decide⟩ (Nat.le_of_ble_eq_true rfl) dX10_conditionFault_196 ?_
                            intro r622 τ623 h624
                            obtain ⟨eh624, h624⟩ := h624; replace eh624 := eh624.symm; subst eh624
                            have mh624 := h624.2
                            refine s_if_eq (tgt := 228) C dX10_conditionFault_199 (by decide) (fun q625 => ?_) (fun q625 => ?_)
                            · refine s_iload_n C dX10_conditionFault_228 rfl ?_
                              exact s_iret C X dX10_conditionFault_229 ⟨(Fr.tr Fr.rf (Fr.mo kF (by decide) (by decide))), by omega, by omega, fun q => by omega⟩
                            · refine s_aload_n C dX10_conditionFault_202 rfl ?_
                              refine s_callVV (st := []) C (c_X10_testEnds l ad τ o hd ho (by omega)) cv_X10_266 y71 rfl rfl rfl ⟨by decide, by decide⟩ (Nat.le_of_ble_eq_true rfl) dX10_conditionFault_203 ?_
                              intro τ627 h628
                              have dτ627 : Int32.toInt (τ627.1 71 49) = (te o).length := h628.2
                              have pτ627 : Op (τ627.1 109) (te o) := by rw [h628.1.a 109 (by decide) (by decide)]; exact Op_te o ho
                              have qτ627 := te_len o
                              obtain ⟨r6, hr6⟩ := te_hd (mh624.mp (by omega))
                              have hl6 : 1 ≤ (te o).length := by rw [hr6]; simp
                              refine s_aload_n C dX10_conditionFault_206 rfl ?_
                              refine s_dup C dX10_conditionFault_207 rfl ?_
                              refine s_get (k := 49) (x := (τ627.1 71 49)) C y71 fw_X10_260 rfl rfl dX10_conditionFault_208 ?_
                              refine s_iconst C dX10_conditionFault_211 (by decide) (fun z629 tz629 => ?_)
                              refine s_isub C dX10_conditionFault_212 (by omega) (fun z630 tz630 => ?_)
                              refine s_put (k := 49) C y71 fw_X10_260 fp_9_49 rfl dX10_conditionFault_213 ?_
                              refine s_aload_n C dX10_conditionFault_216 rfl ?_
                              refine s_callVV (st := []) C (c_X10_testEnds l ad (sV τ627 71 49 z630) (te o).tail (by show Int32.toInt z630 = _; rw [List.length_tail]; omega) (Op_tail _ pτ627) (by rw [List.length_tail]; omega)) cv_X10_266 y71 rfl rfl rfl ⟨by decide, by decide⟩ (Nat.le_of_ble_eq_true rfl) dX10_conditionFault_217 ?_
                              intro τ632 h633
                              have dτ632 : Int32.toInt (τ632.1 71 49) = (te (te o).tail).length := h633.2
                              have pτ632 : Op (τ632.1 109) (te (te o).tail) := by rw [h633.1.a 109 (by decide) (by decide)]; exact Op_te _ (Op_tail _ pτ627)
                              have qτ632 := te_len (te o).tail
                              have qqτ632 : (te o).tail.length = (te o).length - 1 := List.length_tail
                              skip
                              refine s_iconst C dX10_conditionFault_220 (by decide) (fun z634 tz634 => ?_)
                              refine s_istore_n C dX10_conditionFault_221 (by decide) (Nat.le_of_ble_eq_true rfl) rfl ?_
                              show WP E ad 222 [some (.ref (ad 71)), some (.int z634), some (.int z), some (.int (τ.1 86 z.toNatClampNeg))] [] τ632
                              refine s_iinc C dX10_conditionFault_222 rfl (by decide) rfl (by decide) (by omega) (fun z635 tz635 => ?_)
                              show WP E ad 225 [some (.ref (ad 71)), some (.int z634), some (.int z635), some (.int (τ.1 86 z.toNatClampNeg))] [] τ632
                              refine s_goto (tgt := 230) C dX10_conditionFault_225 (by decide) ?_
                              refine s_iload_n C dX10_conditionFault_230 rfl ?_
                              refine s_if_ge (tgt := 238) C dX10_conditionFault_231 (by decide) (fun q636 => ?_) (fun q636 => ?_)
                              · refine s_goto (tgt := 9) C dX10_conditionFault_238 (by decide) ?_
                                refine wp_le (lv' := [some (.ref (ad 71)), some (.int z634), some (.int z635), none]) ⟨rfl, ⟨rfl, ⟨rfl, trivial⟩⟩⟩ ?_
                                have ek1 : z635.toInt.toNat = z.toInt.toNat + 1 := by omega
                                exact ih τ632 (te (te o).tail) z634 z635 (Fr.tr (Fr.sV (Fr.tr (Fr.tr Fr.rf (Fr.mo kF (by decide) (by decide))) (Fr.mo h628.1 (by decide) (by decide))) (Or.inr (by decide))) (Fr.mo h633.1 (by decide) (by decide))) dτ632 pτ632 (by omega) (by omega) (by omega) (fun ⟨f, hf⟩ => hac ⟨f + 1, Or.inr ⟨by omega, Or.inr (Or.inr (Or.inr (Or.inr (Or.inr ⟨by omega, by omega, mh624.mp (by omega), (by rw [ek1, show z634.toInt.toNat = 3 by omega] at hf; exact hf)⟩))))⟩⟩) (by omega)
                              · refine s_iconst C dX10_conditionFault_234 (by decide) (fun z637 tz637 => ?_)
                                refine s_iload_n C dX10_conditionFault_235 rfl ?_
                                refine s_isub C dX10_conditionFault_236 (by omega) (fun z638 tz638 => ?_)
                                exact s_iret C X dX10_conditionFault_237 ⟨(Fr.tr (Fr.sV (Fr.tr (Fr.tr Fr.rf (Fr.mo kF (by decide) (by decide))) (Fr.mo h628.1 (by decide) (by decide))) (Or.inr (by decide))) (Fr.mo h633.1 (by decide) (by decide))), by omega, by omega, fun q => by omega⟩
                      · refine s_aload_n C dX10_conditionFault_172 rfl ?_
                        refine s_callVV (st := []) C (c_X10_testEnds l ad τ o hd ho (by omega)) cv_X10_266 y71 rfl rfl rfl ⟨by decide, by decide⟩ (Nat.le_of_ble_eq_true rfl) dX10_conditionFault_173 ?_
                        intro τ640 h641
                        have dτ640 : Int32.toInt (τ640.1 71 49) = (te o).length := h641.2
                        have pτ640 : Op (τ640.1 109) (te o) := by rw [h641.1.a 109 (by decide) (by decide)]; exact Op_te o ho
                        have qτ640 := te_len o
                        skip
                        refine s_iconst C dX10_conditionFault_176 (by decide) (fun z642 tz642 => ?_)
                        refine s_istore_n C dX10_conditionFault_177 (by decide) (Nat.le_of_ble_eq_true rfl) rfl ?_
                        show WP E ad 178 [some (.ref (ad 71)), some (.int z642), some (.int z), some (.int (τ.1 86 z.toNatClampNeg))] [] τ640
                        refine s_iinc C dX10_conditionFault_178 rfl (by decide) rfl (by decide) (by omega) (fun z643 tz643 => ?_)
                        show WP E ad 181 [some (.ref (ad 71)), some (.int z642), some (.int z643), some (.int (τ.1 86 z.toNatClampNeg))] [] τ640
                        refine s_goto (tgt := 230) C dX10_conditionFault_181 (by decide) ?_
                        refine s_iload_n C dX10_conditionFault_230 rfl ?_
                        refine s_if_ge (tgt := 238) C dX10_conditionFault_231 (by decide) (fun q644 => ?_) (fun q644 => ?_)
                        · refine s_goto (tgt := 9) C dX10_conditionFault_238 (by decide) ?_
                          refine wp_le (lv' := [some (.ref (ad 71)), some (.int z642), some (.int z643), none]) ⟨rfl, ⟨rfl, ⟨rfl, trivial⟩⟩⟩ ?_
                          have ek1 : z643.toInt.toNat = z.toInt.toNat + 1 := by omega
                          exact ih τ640 (te o) z642 z643 (Fr.tr (Fr.tr Fr.rf (Fr.mo kF (by decide) (by decide))) (Fr.mo h641.1 (by decide) (by decide))) dτ640 pτ640 (by omega) (by omega) (by omega) (fun ⟨f, hf⟩ => hac ⟨f + 1, Or.inr ⟨by omega, Or.inr (Or.inr (Or.inr (Or.inr (Or.inl ⟨by omega, by omega, (by rw [ek1, show z642.toInt.toNat = 0 by omega] at hf; exact hf)⟩))))⟩⟩) (by omega)
                        · refine s_iconst C dX10_conditionFault_234 (by decide) (fun z645 tz645 => ?_)
                          refine s_iload_n C dX10_conditionFault_235 rfl ?_
                          refine s_isub C dX10_conditionFault_236 (by omega) (fun z646 tz646 => ?_)
                          exact s_iret C X dX10_conditionFault_237 ⟨(Fr.tr (Fr.tr Fr.rf (Fr.mo kF (by decide) (by decide))) (Fr.mo h641.1 (by decide) (by decide))), by omega, by omega, fun q => by omega⟩
                    · refine s_iload_n C dX10_conditionFault_161 rfl ?_
                      refine s_bipush C dX10_conditionFault_162 (by decide) (fun z647 tz647 => ?_)
                      refine s_icmp_ne (tgt := 184) C dX10_conditionFault_164 (by decide) (fun q648 => ?_) (fun q648 => ?_)
                      · refine s_iload_n C dX10_conditionFault_184 rfl ?_
                        refine s_bipush C dX10_conditionFault_185 (by decide) (fun z649 tz649 => ?_)
                        refine s_icmp_ne (tgt := 228) C dX10_conditionFault_187 (by decide) (fun q650 => ?_) (fun q650 => ?_)
                        · refine s_iload_n C dX10_conditionFault_228 rfl ?_
                          exact s_iret C X dX10_conditionFault_229 ⟨(Fr.tr Fr.rf (Fr.mo kF (by decide) (by decide))), by omega, by omega, fun q => by omega⟩
                        · refine s_iload_n C dX10_conditionFault_190 rfl ?_
                          refine s_iconst C dX10_conditionFault_191 (by decide) (fun z651 tz651 => ?_)
                          refine s_icmp_le (tgt := 228) C dX10_conditionFault_192 (by decide) (fun q652 => ?_) (fun q652 => ?_)
                          · refine s_iload_n C dX10_conditionFault_228 rfl ?_
                            exact s_iret C X dX10_conditionFault_229 ⟨(Fr.tr Fr.rf (Fr.mo kF (by decide) (by decide))), by omega, by omega, fun q => by omega⟩
                          · refine s_aload_n C dX10_conditionFault_195 rfl ?_
                            refine s_callVI (st := []) C (c_X10_isOpen l ad τ o hd ho (by omega)) cv_X10_269 y71 rfl rfl rfl ⟨by decide, by decide⟩ (Nat.le_of_ble_eq_true rfl) dX10_conditionFault_196 ?_
                            intro r653 τ654 h655
                            obtain ⟨eh655, h655⟩ := h655; replace eh655 := eh655.symm; subst eh655
                            have mh655 := h655.2
                            refine s_if_eq (tgt := 228) C dX10_conditionFault_199 (by decide) (fun q656 => ?_) (fun q656 => ?_)
                            · refine s_iload_n C dX10_conditionFault_228 rfl ?_
                              exact s_iret C X dX10_conditionFault_229 ⟨(Fr.tr Fr.rf (Fr.mo kF (by decide) (by decide))), by omega, by omega, fun q => by omega⟩
                            · refine s_aload_n C dX10_conditionFault_202 rfl ?_
                              refine s_callVV (st := []) C (c_X10_testEnds l ad τ o hd ho (by omega)) cv_X10_266 y71 rfl rfl rfl ⟨by decide, by decide⟩ (Nat.le_of_ble_eq_true rfl) dX10_conditionFault_203 ?_
                              intro τ658 h659
                              have dτ658 : Int32.toInt (τ658.1 71 49) = (te o).length := h659.2
                              have pτ658 : Op (τ658.1 109) (te o) := by rw [h659.1.a 109 (by decide) (by decide)]; exact Op_te o ho
                              have qτ658 := te_len o
                              obtain ⟨r6, hr6⟩ := te_hd (mh655.mp (by omega))
                              have hl6 : 1 ≤ (te o).length := by rw [hr6]; simp
                              refine s_aload_n C dX10_conditionFault_206 rfl ?_
                              refine s_dup C dX10_conditionFault_207 rfl ?_
                              refine s_get (k := 49) (x := (τ658.1 71 49)) C y71 fw_X10_260 rfl rfl dX10_conditionFault_208 ?_
                              refine s_iconst C dX10_conditionFault_211 (by decide) (fun z660 tz660 => ?_)
                              refine s_isub C dX10_conditionFault_212 (by omega) (fun z661 tz661 => ?_)
                              refine s_put (k := 49) C y71 fw_X10_260 fp_9_49 rfl dX10_conditionFault_213 ?_
                              refine s_aload_n C dX10_conditionFault_216 rfl ?_
                              refine s_callVV (st := []) C (c_X10_testEnds l ad (sV τ658 71 49 z661) (te o).tail (by show Int32.toInt z661 = _; rw [List.length_tail]; omega) (Op_tail _ pτ658) (by rw [List.length_tail]; omega)) cv_X10_266 y71 rfl rfl rfl ⟨by decide, by decide⟩ (Nat.le_of_ble_eq_true rfl) dX10_conditionFault_217 ?_
                              intro τ663 h664
                              have dτ663 : Int32.toInt (τ663.1 71 49) = (te (te o).tail).length := h664.2
                              have pτ663 : Op (τ663.1 109) (te (te o).tail) := by rw [h664.1.a 109 (by decide) (by decide)]; exact Op_te _ (Op_tail _ pτ658)
                              have qτ663 := te_len (te o).tail
                              have qqτ663 : (te o).tail.length = (te o).length - 1 := List.length_tail
                              skip
                              refine s_iconst C dX10_conditionFault_220 (by decide) (fun z665 tz665 => ?_)
                              refine s_istore_n C dX10_conditionFault_221 (by decide) (Nat.le_of_ble_eq_true rfl) rfl ?_
                              show WP E ad 222 [some (.ref (ad 71)), some (.int z665), some (.int z), some (.int (τ.1 86 z.toNatClampNeg))] [] τ663
                              refine s_iinc C dX10_conditionFault_222 rfl (by decide) rfl (by decide) (by omega) (fun z666 tz666 => ?_)
                              show WP E ad 225 [some (.ref (ad 71)), some (.int z665), some (.int z666), some (.int (τ.1 86 z.toNatClampNeg))] [] τ663
                              refine s_goto (tgt := 230) C dX10_conditionFault_225 (by decide) ?_
                              refine s_iload_n C dX10_conditionFault_230 rfl ?_
                              refine s_if_ge (tgt := 238) C dX10_conditionFault_231 (by decide) (fun q667 => ?_) (fun q667 => ?_)
                              · refine s_goto (tgt := 9) C dX10_conditionFault_238 (by decide) ?_
                                refine wp_le (lv' := [some (.ref (ad 71)), some (.int z665), some (.int z666), none]) ⟨rfl, ⟨rfl, ⟨rfl, trivial⟩⟩⟩ ?_
                                have ek1 : z666.toInt.toNat = z.toInt.toNat + 1 := by omega
                                exact ih τ663 (te (te o).tail) z665 z666 (Fr.tr (Fr.sV (Fr.tr (Fr.tr Fr.rf (Fr.mo kF (by decide) (by decide))) (Fr.mo h659.1 (by decide) (by decide))) (Or.inr (by decide))) (Fr.mo h664.1 (by decide) (by decide))) dτ663 pτ663 (by omega) (by omega) (by omega) (fun ⟨f, hf⟩ => hac ⟨f + 1, Or.inr ⟨by omega, Or.inr (Or.inr (Or.inr (Or.inr (Or.inr ⟨by omega, by omega, mh655.mp (by omega), (by rw [ek1, show z665.toInt.toNat = 3 by omega] at hf; exact hf)⟩))))⟩⟩) (by omega)
                              · refine s_iconst C dX10_conditionFault_234 (by decide) (fun z668 tz668 => ?_)
                                refine s_iload_n C dX10_conditionFault_235 rfl ?_
                                refine s_isub C dX10_conditionFault_236 (by omega) (fun z669 tz669 => ?_)
                                exact s_iret C X dX10_conditionFault_237 ⟨(Fr.tr (Fr.sV (Fr.tr (Fr.tr Fr.rf (Fr.mo kF (by decide) (by decide))) (Fr.mo h659.1 (by decide) (by decide))) (Or.inr (by decide))) (Fr.mo h664.1 (by decide) (by decide))), by omega, by omega, fun q => by omega⟩
                      · refine s_iload_n C dX10_conditionFault_167 rfl ?_
                        refine s_iconst C dX10_conditionFault_168 (by decide) (fun z670 tz670 => ?_)
                        refine s_icmp_le (tgt := 184) C dX10_conditionFault_169 (by decide) (fun q671 => ?_) (fun q671 => ?_)
                        · refine s_iload_n C dX10_conditionFault_184 rfl ?_
                          refine s_bipush C dX10_conditionFault_185 (by decide) (fun z672 tz672 => ?_)
                          refine s_icmp_ne (tgt := 228) C dX10_conditionFault_187 (by decide) (fun q673 => ?_) (fun q673 => ?_)
                          · refine s_iload_n C dX10_conditionFault_228 rfl ?_
                            exact s_iret C X dX10_conditionFault_229 ⟨(Fr.tr Fr.rf (Fr.mo kF (by decide) (by decide))), by omega, by omega, fun q => by omega⟩
                          · refine s_iload_n C dX10_conditionFault_190 rfl ?_
                            refine s_iconst C dX10_conditionFault_191 (by decide) (fun z674 tz674 => ?_)
                            refine s_icmp_le (tgt := 228) C dX10_conditionFault_192 (by decide) (fun q675 => ?_) (fun q675 => ?_)
                            · refine s_iload_n C dX10_conditionFault_228 rfl ?_
                              exact s_iret C X dX10_conditionFault_229 ⟨(Fr.tr Fr.rf (Fr.mo kF (by decide) (by decide))), by omega, by omega, fun q => by omega⟩
                            · refine s_aload_n C dX10_conditionFault_195 rfl ?_
                              refine s_callVI (st := []) C (c_X10_isOpen l ad τ o hd ho (by omega)) cv_X10_269 y71 rfl rfl rfl ⟨by decide, by decide⟩ (Nat.le_of_ble_eq_true rfl) dX10_conditionFault_196 ?_
                              intro r676 τ677 h678
                              obtain ⟨eh678, h678⟩ := h678; replace eh678 := eh678.symm; subst eh678
                              have mh678 := h678.2
                              refine s_if_eq (tgt := 228) C dX10_conditionFault_199 (by decide) (fun q679 => ?_) (fun q679 => ?_)
                              · refine s_iload_n C dX10_conditionFault_228 rfl ?_
                                exact s_iret C X dX10_conditionFault_229 ⟨(Fr.tr Fr.rf (Fr.mo kF (by decide) (by decide))), by omega, by omega, fun q => by omega⟩
                              · refine s_aload_n C dX10_conditionFault_202 rfl ?_
                                refine s_callVV (st := []) C (c_X10_testEnds l ad τ o hd ho (by omega)) cv_X10_266 y71 rfl rfl rfl ⟨by decide, by decide⟩ (Nat.le_of_ble_eq_true rfl) dX10_conditionFault_203 ?_
                                intro τ681 h682
                                have dτ681 : Int32.toInt (τ681.1 71 49) = (te o).length := h682.2
                                have pτ681 : Op (τ681.1 109) (te o) := by rw [h682.1.a 109 (by decide) (by decide)]; exact Op_te o ho
                                have qτ681 := te_len o
                                obtain ⟨r6, hr6⟩ := te_hd (mh678.mp (by omega))
                                have hl6 : 1 ≤ (te o).length := by rw [hr6]; simp
                                refine s_aload_n C dX10_conditionFault_206 rfl ?_
                                refine s_dup C dX10_conditionFault_207 rfl ?_
                                refine s_get (k := 49) (x := (τ681.1 71 49)) C y71 fw_X10_260 rfl rfl dX10_conditionFault_208 ?_
                                refine s_iconst C dX10_conditionFault_211 (by decide) (fun z683 tz683 => ?_)
                                refine s_isub C dX10_conditionFault_212 (by omega) (fun z684 tz684 => ?_)
                                refine s_put (k := 49) C y71 fw_X10_260 fp_9_49 rfl dX10_conditionFault_213 ?_
                                refine s_aload_n C dX10_conditionFault_216 rfl ?_
                                refine s_callVV (st := []) C (c_X10_testEnds l ad (sV τ681 71 49 z684) (te o).tail (by show Int32.toInt z684 = _; rw [List.length_tail]; omega) (Op_tail _ pτ681) (by rw [List.length_tail]; omega)) cv_X10_266 y71 rfl rfl rfl ⟨by decide, by decide⟩ (Nat.le_of_ble_eq_true rfl) dX10_conditionFault_217 ?_
                                intro τ686 h687
                                have dτ686 : Int32.toInt (τ686.1 71 49) = (te (te o).tail).length := h687.2
                                have pτ686 : Op (τ686.1 109) (te (te o).tail) := by rw [h687.1.a 109 (by decide) (by decide)]; exact Op_te _ (Op_tail _ pτ681)
                                have qτ686 := te_len (te o).tail
                                have qqτ686 : (te o).tail.length = (te o).length - 1 := List.length_tail
                                skip
                                refine s_iconst C dX10_conditionFault_220 (by decide) (fun z688 tz688 => ?_)
                                refine s_istore_n C dX10_conditionFault_221 (by decide) (Nat.le_of_ble_eq_true rfl) rfl ?_
                                show WP E ad 222 [some (.ref (ad 71)), some (.int z688), some (.int z), some (.int (τ.1 86 z.toNatClampNeg))] [] τ686
                                refine s_iinc C dX10_conditionFault_222 rfl (by decide) rfl (by decide) (by omega) (fun z689 tz689 => ?_)
                                show WP E ad 225 [some (.ref (ad 71)), some (.int z688), some (.int z689), some (.int (τ.1 86 z.toNatClampNeg))] [] τ686
                                refine s_goto (tgt := 230) C dX10_conditionFault_225 (by decide) ?_
                                refine s_iload_n C dX10_conditionFault_230 rfl ?_
                                refine s_if_ge (tgt := 238) C dX10_conditionFault_231 (by decide) (fun q690 => ?_) (fun q690 => ?_)
                                · refine s_goto (tgt := 9) C dX10_conditionFault_238 (by decide) ?_
                                  refine wp_le (lv' := [some (.ref (ad 71)), some (.int z688), some (.int z689), none]) ⟨rfl, ⟨rfl, ⟨rfl, trivial⟩⟩⟩ ?_
                                  have ek1 : z689.toInt.toNat = z.toInt.toNat + 1 := by omega
                                  exact ih τ686 (te (te o).tail) z688 z689 (Fr.tr (Fr.sV (Fr.tr (Fr.tr Fr.rf (Fr.mo kF (by decide) (by decide))) (Fr.mo h682.1 (by decide) (by decide))) (Or.inr (by decide))) (Fr.mo h687.1 (by decide) (by decide))) dτ686 pτ686 (by omega) (by omega) (by omega) (fun ⟨f, hf⟩ => hac ⟨f + 1, Or.inr ⟨by omega, Or.inr (Or.inr (Or.inr (Or.inr (Or.inr ⟨by omega, by omega, mh678.mp (by omega), (by rw [ek1, show z688.toInt.toNat = 3 by omega] at hf; exact hf)⟩))))⟩⟩) (by omega)
                                · refine s_iconst C dX10_conditionFault_234 (by decide) (fun z691 tz691 => ?_)
                                  refine s_iload_n C dX10_conditionFault_235 rfl ?_
                                  refine s_isub C dX10_conditionFault_236 (by omega) (fun z692 tz692 => ?_)
                                  exact s_iret C X dX10_conditionFault_237 ⟨(Fr.tr (Fr.sV (Fr.tr (Fr.tr Fr.rf (Fr.mo kF (by decide) (by decide))) (Fr.mo h682.1 (by decide) (by decide))) (Or.inr (by decide))) (Fr.mo h687.1 (by decide) (by decide))), by omega, by omega, fun q => by omega⟩
                        · refine s_aload_n C dX10_conditionFault_172 rfl ?_
                          refine s_callVV (st := []) C (c_X10_testEnds l ad τ o hd ho (by omega)) cv_X10_266 y71 rfl rfl rfl ⟨by decide, by decide⟩ (Nat.le_of_ble_eq_true rfl) dX10_conditionFault_173 ?_
                          intro τ694 h695
                          have dτ694 : Int32.toInt (τ694.1 71 49) = (te o).length := h695.2
                          have pτ694 : Op (τ694.1 109) (te o) := by rw [h695.1.a 109 (by decide) (by decide)]; exact Op_te o ho
                          have qτ694 := te_len o
                          skip
                          refine s_iconst C dX10_conditionFault_176 (by decide) (fun z696 tz696 => ?_)
                          refine s_istore_n C dX10_conditionFault_177 (by decide) (Nat.le_of_ble_eq_true rfl) rfl ?_
                          show WP E ad 178 [some (.ref (ad 71)), some (.int z696), some (.int z), some (.int (τ.1 86 z.toNatClampNeg))] [] τ694
                          refine s_iinc C dX10_conditionFault_178 rfl (by decide) rfl (by decide) (by omega) (fun z697 tz697 => ?_)
                          show WP E ad 181 [some (.ref (ad 71)), some (.int z696), some (.int z697), some (.int (τ.1 86 z.toNatClampNeg))] [] τ694
                          refine s_goto (tgt := 230) C dX10_conditionFault_181 (by decide) ?_
                          refine s_iload_n C dX10_conditionFault_230 rfl ?_
                          refine s_if_ge (tgt := 238) C dX10_conditionFault_231 (by decide) (fun q698 => ?_) (fun q698 => ?_)
                          · refine s_goto (tgt := 9) C dX10_conditionFault_238 (by decide) ?_
                            refine wp_le (lv' := [some (.ref (ad 71)), some (.int z696), some (.int z697), none]) ⟨rfl, ⟨rfl, ⟨rfl, trivial⟩⟩⟩ ?_
                            have ek1 : z697.toInt.toNat = z.toInt.toNat + 1 := by omega
                            exact ih τ694 (te o) z696 z697 (Fr.tr (Fr.tr Fr.rf (Fr.mo kF (by decide) (by decide))) (Fr.mo h695.1 (by decide) (by decide))) dτ694 pτ694 (by omega) (by omega) (by omega) (fun ⟨f, hf⟩ => hac ⟨f + 1, Or.inr ⟨by omega, Or.inr (Or.inr (Or.inr (Or.inr (Or.inl ⟨by omega, by omega, (by rw [ek1, show z696.toInt.toNat = 0 by omega] at hf; exact hf)⟩))))⟩⟩) (by omega)
                          · refine s_iconst C dX10_conditionFault_234 (by decide) (fun z699 tz699 => ?_)
                            refine s_iload_n C dX10_conditionFault_235 rfl ?_
                            refine s_isub C dX10_conditionFault_236 (by omega) (fun z700 tz700 => ?_)
                            exact s_iret C X dX10_conditionFault_237 ⟨(Fr.tr (Fr.tr Fr.rf (Fr.mo kF (by decide) (by decide))) (Fr.mo h695.1 (by decide) (by decide))), by omega, by omega, fun q => by omega⟩
                  · refine s_iload_n C dX10_conditionFault_137 rfl ?_
                    refine s_iconst C dX10_conditionFault_138 (by decide) (fun z701 tz701 => ?_)
                    refine s_icmp_ne (tgt := 155) C dX10_conditionFault_139 (by decide) (fun q702 => ?_) (fun q702 => ?_)
                    · refine s_iload_n C dX10_conditionFault_155 rfl ?_
                      refine s_bipush C dX10_conditionFault_156 (by decide) (fun z703 tz703 => ?_)
                      refine s_icmp_eq (tgt := 167) C dX10_conditionFault_158 (by decide) (fun q704 => ?_) (fun q704 => ?_)
                      · refine s_iload_n C dX10_conditionFault_167 rfl ?_
                        refine s_iconst C dX10_conditionFault_168 (by decide) (fun z705 tz705 => ?_)
                        refine s_icmp_le (tgt := 184) C dX10_conditionFault_169 (by decide) (fun q706 => ?_) (fun q706 => ?_)
                        · refine s_iload_n C dX10_conditionFault_184 rfl ?_
                          refine s_bipush C dX10_conditionFault_185 (by decide) (fun z707 tz707 => ?_)
                          refine s_icmp_ne (tgt := 228) C dX10_conditionFault_187 (by decide) (fun q708 => ?_) (fun q708 => ?_)
                          · refine s_iload_n C dX10_conditionFault_228 rfl ?_
                            exact s_iret C X dX10_conditionFault_229 ⟨(Fr.tr Fr.rf (Fr.mo kF (by decide) (by decide))), by omega, by omega, fun q => by omega⟩
                          · refine s_iload_n C dX10_conditionFault_190 rfl ?_
                            refine s_iconst C dX10_conditionFault_191 (by decide) (fun z709 tz709 => ?_)
                            refine s_icmp_le (tgt := 228) C dX10_conditionFault_192 (by decide) (fun q710 => ?_) (fun q710 => ?_)
                            · refine s_iload_n C dX10_conditionFault_228 rfl ?_
                              exact s_iret C X dX10_conditionFault_229 ⟨(Fr.tr Fr.rf (Fr.mo kF (by decide) (by decide))), by omega, by omega, fun q => by omega⟩
                            · refine s_aload_n C dX10_conditionFault_195 rfl ?_
                              refine s_callVI (st := []) C (c_X10_isOpen l ad τ o hd ho (by omega)) cv_X10_269 y71 rfl rfl rfl ⟨by decide, by decide⟩ (Nat.le_of_ble_eq_true rfl) dX10_conditionFault_196 ?_
                              intro r711 τ712 h713
                              obtain ⟨eh713, h713⟩ := h713; replace eh713 := eh713.symm; subst eh713
                              have mh713 := h713.2
                              refine s_if_eq (tgt := 228) C dX10_conditionFault_199 (by decide) (fun q714 => ?_) (fun q714 => ?_)
                              · refine s_iload_n C dX10_conditionFault_228 rfl ?_
                                exact s_iret C X dX10_conditionFault_229 ⟨(Fr.tr Fr.rf (Fr.mo kF (by decide) (by decide))), by omega, by omega, fun q => by omega⟩
                              · refine s_aload_n C dX10_conditionFault_202 rfl ?_
                                refine s_callVV (st := []) C (c_X10_testEnds l ad τ o hd ho (by omega)) cv_X10_266 y71 rfl rfl rfl ⟨by decide, by decide⟩ (Nat.le_of_ble_eq_true rfl) dX10_conditionFault_203 ?_
                                intro τ716 h717
                                have dτ716 : Int32.toInt (τ716.1 71 49) = (te o).length := h717.2
                                have pτ716 : Op (τ716.1 109) (te o) := by rw [h717.1.a 109 (by decide) (by decide)]; exact Op_te o ho
                                have qτ716 := te_len o
                                obtain ⟨r6, hr6⟩ := te_hd (mh713.mp (by omega))
                                have hl6 : 1 ≤ (te o).length := by rw [hr6]; simp
                                refine s_aload_n C dX10_conditionFault_206 rfl ?_
                                refine s_dup C dX10_conditionFault_207 rfl ?_
                                refine s_get (k := 49) (x := (τ716.1 71 49)) C y71 fw_X10_260 rfl rfl dX10_conditionFault_208 ?_
                                refine s_iconst C dX10_conditionFault_211 (by decide) (fun z718 tz718 => ?_)
                                refine s_isub C dX10_conditionFault_212 (by omega) (fun z719 tz719 => ?_)
                                refine s_put (k := 49) C y71 fw_X10_260 fp_9_49 rfl dX10_conditionFault_213 ?_
                                refine s_aload_n C dX10_conditionFault_216 rfl ?_
                                refine s_callVV (st := []) C (c_X10_testEnds l ad (sV τ716 71 49 z719) (te o).tail (by show Int32.toInt z719 = _; rw [List.length_tail]; omega) (Op_tail _ pτ716) (by rw [List.length_tail]; omega)) cv_X10_266 y71 rfl rfl rfl ⟨by decide, by decide⟩ (Nat.le_of_ble_eq_true rfl) dX10_conditionFault_217 ?_
                                intro τ721 h722
                                have dτ721 : Int32.toInt (τ721.1 71 49) = (te (te o).tail).length := h722.2
                                have pτ721 : Op (τ721.1 109) (te (te o).tail) := by rw [h722.1.a 109 (by decide) (by decide)]; exact Op_te _ (Op_tail _ pτ716)
                                have qτ721 := te_len (te o).tail
                                have qqτ721 : (te o).tail.length = (te o).length - 1 := List.length_tail
                                skip
                                refine s_iconst C dX10_conditionFault_220 (by decide) (fun z723 tz723 => ?_)
                                refine s_istore_n C dX10_conditionFault_221 (by decide) (Nat.le_of_ble_eq_true rfl) rfl ?_
                                show WP E ad 222 [some (.ref (ad 71)), some (.int z723), some (.int z), some (.int (τ.1 86 z.toNatClampNeg))] [] τ721
                                refine s_iinc C dX10_conditionFault_222 rfl (by decide) rfl (by decide) (by omega) (fun z724 tz724 => ?_)
                                show WP E ad 225 [some (.ref (ad 71)), some (.int z723), some (.int z724), some (.int (τ.1 86 z.toNatClampNeg))] [] τ721
                                refine s_goto (tgt := 230) C dX10_conditionFault_225 (by decide) ?_
                                refine s_iload_n C dX10_conditionFault_230 rfl ?_
                                refine s_if_ge (tgt := 238) C dX10_conditionFault_231 (by decide) (fun q725 => ?_) (fun q725 => ?_)
                                · refine s_goto (tgt := 9) C dX10_conditionFault_238 (by decide) ?_
                                  refine wp_le (lv' := [some (.ref (ad 71)), some (.int z723), some (.int z724), none]) ⟨rfl, ⟨rfl, ⟨rfl, trivial⟩⟩⟩ ?_
                                  have ek1 : z724.toInt.toNat = z.toInt.toNat + 1 := by omega
                                  exact ih τ721 (te (te o).tail) z723 z724 (Fr.tr (Fr.sV (Fr.tr (Fr.tr Fr.rf (Fr.mo kF (by decide) (by decide))) (Fr.mo h717.1 (by decide) (by decide))) (Or.inr (by decide))) (Fr.mo h722.1 (by decide) (by decide))) dτ721 pτ721 (by omega) (by omega) (by omega) (fun ⟨f, hf⟩ => hac ⟨f + 1, Or.inr ⟨by omega, Or.inr (Or.inr (Or.inr (Or.inr (Or.inr ⟨by omega, by omega, mh713.mp (by omega), (by rw [ek1, show z723.toInt.toNat = 3 by omega] at hf; exact hf)⟩))))⟩⟩) (by omega)
                                · refine s_iconst C dX10_conditionFault_234 (by decide) (fun z726 tz726 => ?_)
                                  refine s_iload_n C dX10_conditionFault_235 rfl ?_
                                  refine s_isub C dX10_conditionFault_236 (by omega) (fun z727 tz727 => ?_)
                                  exact s_iret C X dX10_conditionFault_237 ⟨(Fr.tr (Fr.sV (Fr.tr (Fr.tr Fr.rf (Fr.mo kF (by decide) (by decide))) (Fr.mo h717.1 (by decide) (by decide))) (Or.inr (by decide))) (Fr.mo h722.1 (by decide) (by decide))), by omega, by omega, fun q => by omega⟩
                        · refine s_aload_n C dX10_conditionFault_172 rfl ?_
                          refine s_callVV (st := []) C (c_X10_testEnds l ad τ o hd ho (by omega)) cv_X10_266 y71 rfl rfl rfl ⟨by decide, by decide⟩ (Nat.le_of_ble_eq_true rfl) dX10_conditionFault_173 ?_
                          intro τ729 h730
                          have dτ729 : Int32.toInt (τ729.1 71 49) = (te o).length := h730.2
                          have pτ729 : Op (τ729.1 109) (te o) := by rw [h730.1.a 109 (by decide) (by decide)]; exact Op_te o ho
                          have qτ729 := te_len o
                          skip
                          refine s_iconst C dX10_conditionFault_176 (by decide) (fun z731 tz731 => ?_)
                          refine s_istore_n C dX10_conditionFault_177 (by decide) (Nat.le_of_ble_eq_true rfl) rfl ?_
                          show WP E ad 178 [some (.ref (ad 71)), some (.int z731), some (.int z), some (.int (τ.1 86 z.toNatClampNeg))] [] τ729
                          refine s_iinc C dX10_conditionFault_178 rfl (by decide) rfl (by decide) (by omega) (fun z732 tz732 => ?_)
                          show WP E ad 181 [some (.ref (ad 71)), some (.int z731), some (.int z732), some (.int (τ.1 86 z.toNatClampNeg))] [] τ729
                          refine s_goto (tgt := 230) C dX10_conditionFault_181 (by decide) ?_
                          refine s_iload_n C dX10_conditionFault_230 rfl ?_
                          refine s_if_ge (tgt := 238) C dX10_conditionFault_231 (by decide) (fun q733 => ?_) (fun q733 => ?_)
                          · refine s_goto (tgt := 9) C dX10_conditionFault_238 (by decide) ?_
                            refine wp_le (lv' := [some (.ref (ad 71)), some (.int z731), some (.int z732), none]) ⟨rfl, ⟨rfl, ⟨rfl, trivial⟩⟩⟩ ?_
                            have ek1 : z732.toInt.toNat = z.toInt.toNat + 1 := by omega
                            exact ih τ729 (te o) z731 z732 (Fr.tr (Fr.tr Fr.rf (Fr.mo kF (by decide) (by decide))) (Fr.mo h730.1 (by decide) (by decide))) dτ729 pτ729 (by omega) (by omega) (by omega) (fun ⟨f, hf⟩ => hac ⟨f + 1, Or.inr ⟨by omega, Or.inr (Or.inr (Or.inr (Or.inr (Or.inl ⟨by omega, by omega, (by rw [ek1, show z731.toInt.toNat = 0 by omega] at hf; exact hf)⟩))))⟩⟩) (by omega)
                          · refine s_iconst C dX10_conditionFault_234 (by decide) (fun z734 tz734 => ?_)
                            refine s_iload_n C dX10_conditionFault_235 rfl ?_
                            refine s_isub C dX10_conditionFault_236 (by omega) (fun z735 tz735 => ?_)
                            exact s_iret C X dX10_conditionFault_237 ⟨(Fr.tr (Fr.tr Fr.rf (Fr.mo kF (by decide) (by decide))) (Fr.mo h730.1 (by decide) (by decide))), by omega, by omega, fun q => by omega⟩
                      · refine s_iload_n C dX10_conditionFault_161 rfl ?_
                        refine s_bipush C dX10_conditionFault_162 (by decide) (fun z736 tz736 => ?_)
                        refine s_icmp_ne (tgt := 184) C dX10_conditionFault_164 (by decide) (fun q737 => ?_) (fun q737 => ?_)
                        · refine s_iload_n C dX10_conditionFault_184 rfl ?_
                          refine s_bipush C dX10_conditionFault_185 (by decide) (fun z738 tz738 => ?_)
                          refine s_icmp_ne (tgt := 228) C dX10_conditionFault_187 (by decide) (fun q739 => ?_) (fun q739 => ?_)
                          · refine s_iload_n C dX10_conditionFault_228 rfl ?_
                            exact s_iret C X dX10_conditionFault_229 ⟨(Fr.tr Fr.rf (Fr.mo kF (by decide) (by decide))), by omega, by omega, fun q => by omega⟩
                          · refine s_iload_n C dX10_conditionFault_190 rfl ?_
                            refine s_iconst C dX10_conditionFault_191 (by decide) (fun z740 tz740 => ?_)
                            refine s_icmp_le (tgt := 228) C dX10_conditionFault_192 (by decide) (fun q741 => ?_) (fun q741 => ?_)
                            · refine s_iload_n C dX10_conditionFault_228 rfl ?_
                              exact s_iret C X dX10_conditionFault_229 ⟨(Fr.tr Fr.rf (Fr.mo kF (by decide) (by decide))), by omega, by omega, fun q => by omega⟩
                            · refine s_aload_n C dX10_conditionFault_195 rfl ?_
                              refine s_callVI (st := []) C (c_X10_isOpen l ad τ o hd ho (by omega)) cv_X10_269 y71 rfl rfl rfl ⟨by decide, by decide⟩ (Nat.le_of_ble_eq_true rfl) dX10_conditionFault_196 ?_
                              intro r742 τ743 h744
                              obtain ⟨eh744, h744⟩ := h744; replace eh744 := eh744.symm; subst eh744
                              have mh744 := h744.2
                              refine s_if_eq (tgt := 228) C dX10_conditionFault_199 (by decide) (fun q745 => ?_) (fun q745 => ?_)
                              · refine s_iload_n C dX10_conditionFault_228 rfl ?_
                                exact s_iret C X dX10_conditionFault_229 ⟨(Fr.tr Fr.rf (Fr.mo kF (by decide) (by decide))), by omega, by omega, fun q => by omega⟩
                              · refine s_aload_n C dX10_conditionFault_202 rfl ?_
                                refine s_callVV (st := []) C (c_X10_testEnds l ad τ o hd ho (by omega)) cv_X10_266 y71 rfl rfl rfl ⟨by decide, by decide⟩ (Nat.le_of_ble_eq_true rfl) dX10_conditionFault_203 ?_
                                intro τ747 h748
                                have dτ747 : Int32.toInt (τ747.1 71 49) = (te o).length := h748.2
                                have pτ747 : Op (τ747.1 109) (te o) := by rw [h748.1.a 109 (by decide) (by decide)]; exact Op_te o ho
                                have qτ747 := te_len o
                                obtain ⟨r6, hr6⟩ := te_hd (mh744.mp (by omega))
                                have hl6 : 1 ≤ (te o).length := by rw [hr6]; simp
                                refine s_aload_n C dX10_conditionFault_206 rfl ?_
                                refine s_dup C dX10_conditionFault_207 rfl ?_
                                refine s_get (k := 49) (x := (τ747.1 71 49)) C y71 fw_X10_260 rfl rfl dX10_conditionFault_208 ?_
                                refine s_iconst C dX10_conditionFault_211 (by decide) (fun z749 tz749 => ?_)
                                refine s_isub C dX10_conditionFault_212 (by omega) (fun z750 tz750 => ?_)
                                refine s_put (k := 49) C y71 fw_X10_260 fp_9_49 rfl dX10_conditionFault_213 ?_
                                refine s_aload_n C dX10_conditionFault_216 rfl ?_
                                refine s_callVV (st := []) C (c_X10_testEnds l ad (sV τ747 71 49 z750) (te o).tail (by show Int32.toInt z750 = _; rw [List.length_tail]; omega) (Op_tail _ pτ747) (by rw [List.length_tail]; omega)) cv_X10_266 y71 rfl rfl rfl ⟨by decide, by decide⟩ (Nat.le_of_ble_eq_true rfl) dX10_conditionFault_217 ?_
                                intro τ752 h753
                                have dτ752 : Int32.toInt (τ752.1 71 49) = (te (te o).tail).length := h753.2
                                have pτ752 : Op (τ752.1 109) (te (te o).tail) := by rw [h753.1.a 109 (by decide) (by decide)]; exact Op_te _ (Op_tail _ pτ747)
                                have qτ752 := te_len (te o).tail
                                have qqτ752 : (te o).tail.length = (te o).length - 1 := List.length_tail
                                skip
                                refine s_iconst C dX10_conditionFault_220 (by decide) (fun z754 tz754 => ?_)
                                refine s_istore_n C dX10_conditionFault_221 (by decide) (Nat.le_of_ble_eq_true rfl) rfl ?_
                                show WP E ad 222 [some (.ref (ad 71)), some (.int z754), some (.int z), some (.int (τ.1 86 z.toNatClampNeg))] [] τ752
                                refine s_iinc C dX10_conditionFault_222 rfl (by decide) rfl (by decide) (by omega) (fun z755 tz755 => ?_)
                                show WP E ad 225 [some (.ref (ad 71)), some (.int z754), some (.int z755), some (.int (τ.1 86 z.toNatClampNeg))] [] τ752
                                refine s_goto (tgt := 230) C dX10_conditionFault_225 (by decide) ?_
                                refine s_iload_n C dX10_conditionFault_230 rfl ?_
                                refine s_if_ge (tgt := 238) C dX10_conditionFault_231 (by decide) (fun q756 => ?_) (fun q756 => ?_)
                                · refine s_goto (tgt := 9) C dX10_conditionFault_238 (by decide) ?_
                                  refine wp_le (lv' := [some (.ref (ad 71)), some (.int z754), some (.int z755), none]) ⟨rfl, ⟨rfl, ⟨rfl, trivial⟩⟩⟩ ?_
                                  have ek1 : z755.toInt.toNat = z.toInt.toNat + 1 := by omega
                                  exact ih τ752 (te (te o).tail) z754 z755 (Fr.tr (Fr.sV (Fr.tr (Fr.tr Fr.rf (Fr.mo kF (by decide) (by decide))) (Fr.mo h748.1 (by decide) (by decide))) (Or.inr (by decide))) (Fr.mo h753.1 (by decide) (by decide))) dτ752 pτ752 (by omega) (by omega) (by omega) (fun ⟨f, hf⟩ => hac ⟨f + 1, Or.inr ⟨by omega, Or.inr (Or.inr (Or.inr (Or.inr (Or.inr ⟨by omega, by omega, mh744.mp (by omega), (by rw [ek1, show z754.toInt.toNat = 3 by omega] at hf; exact hf)⟩))))⟩⟩) (by omega)
                                · refine s_iconst C dX10_conditionFault_234 (by decide) (fun z757 tz757 => ?_)
                                  refine s_iload_n C dX10_conditionFault_235 rfl ?_
                                  refine s_isub C dX10_conditionFault_236 (by omega) (fun z758 tz758 => ?_)
                                  exact s_iret C X dX10_conditionFault_237 ⟨(Fr.tr (Fr.sV (Fr.tr (Fr.tr Fr.rf (Fr.mo kF (by decide) (by decide))) (Fr.mo h748.1 (by decide) (by decide))) (Or.inr (by decide))) (Fr.mo h753.1 (by decide) (by decide))), by omega, by omega, fun q => by omega⟩
                        · refine s_iload_n C dX10_conditionFault_167 rfl ?_
                          refine s_iconst C dX10_conditionFault_168 (by decide) (fun z759 tz759 => ?_)
                          refine s_icmp_le (tgt := 184) C dX10_conditionFault_169 (by decide) (fun q760 => ?_) (fun q760 => ?_)
                          · refine s_iload_n C dX10_conditionFault_184 rfl ?_
                            refine s_bipush C dX10_conditionFault_185 (by decide) (fun z761 tz761 => ?_)
                            refine s_icmp_ne (tgt := 228) C dX10_conditionFault_187 (by decide) (fun q762 => ?_) (fun q762 => ?_)
                            · refine s_iload_n C dX10_conditionFault_228 rfl ?_
                              exact s_iret C X dX10_conditionFault_229 ⟨(Fr.tr Fr.rf (Fr.mo kF (by decide) (by decide))), by omega, by omega, fun q => by omega⟩
                            · refine s_iload_n C dX10_conditionFault_190 rfl ?_
                              refine s_iconst C dX10_conditionFault_191 (by decide) (fun z763 tz763 => ?_)
                              refine s_icmp_le (tgt := 228) C dX10_conditionFault_192 (by decide) (fun q764 => ?_) (fun q764 => ?_)
                              · refine s_iload_n C dX10_conditionFault_228 rfl ?_
                                exact s_iret C X dX10_conditionFault_229 ⟨(Fr.tr Fr.rf (Fr.mo kF (by decide) (by decide))), by omega, by omega, fun q => by omega⟩
                              · refine s_aload_n C dX10_conditionFault_195 rfl ?_
                                refine s_callVI (st := []) C (c_X10_isOpen l ad τ o hd ho (by omega)) cv_X10_269 y71 rfl rfl rfl ⟨by decide, by decide⟩ (Nat.le_of_ble_eq_true rfl) dX10_conditionFault_196 ?_
                                intro r765 τ766 h767
                                obtain ⟨eh767, h767⟩ := h767; replace eh767 := eh767.symm; subst eh767
                                have mh767 := h767.2
                                refine s_if_eq (tgt := 228) C dX10_conditionFault_199 (by decide) (fun q768 => ?_) (fun q768 => ?_)
                                · refine s_iload_n C dX10_conditionFault_228 rfl ?_
                                  exact s_iret C X dX10_conditionFault_229 ⟨(Fr.tr Fr.rf (Fr.mo kF (by decide) (by decide))), by omega, by omega, fun q => by omega⟩
                                · refine s_aload_n C dX10_conditionFault_202 rfl ?_
                                  refine s_callVV (st := []) C (c_X10_testEnds l ad τ o hd ho (by omega)) cv_X10_266 y71 rfl rfl rfl ⟨by decide, by decide⟩ (Nat.le_of_ble_eq_true rfl) dX10_conditionFault_203 ?_
                                  intro τ770 h771
                                  have dτ770 : Int32.toInt (τ770.1 71 49) = (te o).length := h771.2
                                  have pτ770 : Op (τ770.1 109) (te o) := by rw [h771.1.a 109 (by decide) (by decide)]; exact Op_te o ho
                                  have qτ770 := te_len o
                                  obtain ⟨r6, hr6⟩ := te_hd (mh767.mp (by omega))
                                  have hl6 : 1 ≤ (te o).length := by rw [hr6]; simp
                                  refine s_aload_n C dX10_conditionFault_206 rfl ?_
                                  refine s_dup C dX10_conditionFault_207 rfl ?_
                                  refine s_get (k := 49) (x := (τ770.1 71 49)) C y71 fw_X10_260 rfl rfl dX10_conditionFault_208 ?_
                                  refine s_iconst C dX10_conditionFault_211 (by decide) (fun z772 tz772 => ?_)
                                  refine s_isub C dX10_conditionFault_212 (by omega) (fun z773 tz773 => ?_)
                                  refine s_put (k := 49) C y71 fw_X10_260 fp_9_49 rfl dX10_conditionFault_213 ?_
                                  refine s_aload_n C dX10_conditionFault_216 rfl ?_
                                  refine s_callVV (st := []) C (c_X10_testEnds l ad (sV τ770 71 49 z773) (te o).tail (by show Int32.toInt z773 = _; rw [List.length_tail]; omega) (Op_tail _ pτ770) (by rw [List.length_tail]; omega)) cv_X10_266 y71 rfl rfl rfl ⟨by decide, by decide⟩ (Nat.le_of_ble_eq_true rfl) dX10_conditionFault_217 ?_
                                  intro τ775 h776
                                  have dτ775 : Int32.toInt (τ775.1 71 49) = (te (te o).tail).length := h776.2
                                  have pτ775 : Op (τ775.1 109) (te (te o).tail) := by rw [h776.1.a 109 (by decide) (by decide)]; exact Op_te _ (Op_tail _ pτ770)
                                  have qτ775 := te_len (te o).tail
                                  have qqτ775 : (te o).tail.length = (te o).length - 1 := List.length_tail
                                  skip
                                  refine s_iconst C dX10_conditionFault_220 (by decide) (fun z777 tz777 => ?_)
                                  refine s_istore_n C dX10_conditionFault_221 (by decide) (Nat.le_of_ble_eq_true rfl) rfl ?_
                                  show WP E ad 222 [some (.ref (ad 71)), some (.int z777), some (.int z), some (.int (τ.1 86 z.toNatClampNeg))] [] τ775
                                  refine s_iinc C dX10_conditionFault_222 rfl (by decide) rfl (by decide) (by omega) (fun z778 tz778 => ?_)
                                  show WP E ad 225 [some (.ref (ad 71)), some (.int z777), some (.int z778), some (.int (τ.1 86 z.toNatClampNeg))] [] τ775
                                  refine s_goto (tgt := 230) C dX10_conditionFault_225 (by decide) ?_
                                  refine s_iload_n C dX10_conditionFault_230 rfl ?_
                                  refine s_if_ge (tgt := 238) C dX10_conditionFault_231 (by decide) (fun q779 => ?_) (fun q779 => ?_)
                                  · refine s_goto (tgt := 9) C dX10_conditionFault_238 (by decide) ?_
                                    refine wp_le (lv' := [some (.ref (ad 71)), some (.int z777), some (.int z778), none]) ⟨rfl, ⟨rfl, ⟨rfl, trivial⟩⟩⟩ ?_
                                    have ek1 : z778.toInt.toNat = z.toInt.toNat + 1 := by omega
                                    exact ih τ775 (te (te o).tail) z777 z778 (Fr.tr (Fr.sV (Fr.tr (Fr.tr Fr.rf (Fr.mo kF (by decide) (by decide))) (Fr.mo h771.1 (by decide) (by decide))) (Or.inr (by decide))) (Fr.mo h776.1 (by decide) (by decide))) dτ775 pτ775 (by omega) (by omega) (by omega) (fun ⟨f, hf⟩ => hac ⟨f + 1, Or.inr ⟨by omega, Or.inr (Or.inr (Or.inr (Or.inr (Or.inr ⟨by omega, by omega, mh767.mp (by omega), (by rw [ek1, show z777.toInt.toNat = 3 by omega] at hf; exact hf)⟩))))⟩⟩) (by omega)
                                  · refine s_iconst C dX10_conditionFault_234 (by decide) (fun z780 tz780 => ?_)
                                    refine s_iload_n C dX10_conditionFault_235 rfl ?_
                                    refine s_isub C dX10_conditionFault_236 (by omega) (fun z781 tz781 => ?_)
                                    exact s_iret C X dX10_conditionFault_237 ⟨(Fr.tr (Fr.sV (Fr.tr (Fr.tr Fr.rf (Fr.mo kF (by decide) (by decide))) (Fr.mo h771.1 (by decide) (by decide))) (Or.inr (by decide))) (Fr.mo h776.1 (by decide) (by decide))), by omega, by omega, fun q => by omega⟩
                          · refine s_aload_n C dX10_conditionFault_172 rfl ?_
                            refine s_callVV (st := []) C (c_X10_testEnds l ad τ o hd ho (by omega)) cv_X10_266 y71 rfl rfl rfl ⟨by decide, by decide⟩ (Nat.le_of_ble_eq_true rfl) dX10_conditionFault_173 ?_
                            intro τ783 h784
                            have dτ783 : Int32.toInt (τ783.1 71 49) = (te o).length := h784.2
                            have pτ783 : Op (τ783.1 109) (te o) := by rw [h784.1.a 109 (by decide) (by decide)]; exact Op_te o ho
                            have qτ783 := te_len o
                            skip
                            refine s_iconst C dX10_conditionFault_176 (by decide) (fun z785 tz785 => ?_)
                            refine s_istore_n C dX10_conditionFault_177 (by decide) (Nat.le_of_ble_eq_true rfl) rfl ?_
                            show WP E ad 178 [some (.ref (ad 71)), some (.int z785), some (.int z), some (.int (τ.1 86 z.toNatClampNeg))] [] τ783
                            refine s_iinc C dX10_conditionFault_178 rfl (by decide) rfl (by decide) (by omega) (fun z786 tz786 => ?_)
                            show WP E ad 181 [some (.ref (ad 71)), some (.int z785), some (.int z786), some (.int (τ.1 86 z.toNatClampNeg))] [] τ783
                            refine s_goto (tgt := 230) C dX10_conditionFault_181 (by decide) ?_
                            refine s_iload_n C dX10_conditionFault_230 rfl ?_
                            refine s_if_ge (tgt := 238) C dX10_conditionFault_231 (by decide) (fun q787 => ?_) (fun q787 => ?_)
                            · refine s_goto (tgt := 9) C dX10_conditionFault_238 (by decide) ?_
                              refine wp_le (lv' := [some (.ref (ad 71)), some (.int z785), some (.int z786), none]) ⟨rfl, ⟨rfl, ⟨rfl, trivial⟩⟩⟩ ?_
                              have ek1 : z786.toInt.toNat = z.toInt.toNat + 1 := by omega
                              exact ih τ783 (te o) z785 z786 (Fr.tr (Fr.tr Fr.rf (Fr.mo kF (by decide) (by decide))) (Fr.mo h784.1 (by decide) (by decide))) dτ783 pτ783 (by omega) (by omega) (by omega) (fun ⟨f, hf⟩ => hac ⟨f + 1, Or.inr ⟨by omega, Or.inr (Or.inr (Or.inr (Or.inr (Or.inl ⟨by omega, by omega, (by rw [ek1, show z785.toInt.toNat = 0 by omega] at hf; exact hf)⟩))))⟩⟩) (by omega)
                            · refine s_iconst C dX10_conditionFault_234 (by decide) (fun z788 tz788 => ?_)
                              refine s_iload_n C dX10_conditionFault_235 rfl ?_
                              refine s_isub C dX10_conditionFault_236 (by omega) (fun z789 tz789 => ?_)
                              exact s_iret C X dX10_conditionFault_237 ⟨(Fr.tr (Fr.tr Fr.rf (Fr.mo kF (by decide) (by decide))) (Fr.mo h784.1 (by decide) (by decide))), by omega, by omega, fun q => by omega⟩
                    · refine s_aload_n C dX10_conditionFault_142 rfl ?_
                      refine s_iload_n C dX10_conditionFault_143 rfl ?_
                      refine s_iconst C dX10_conditionFault_144 (by decide) (fun z790 tz790 => ?_)
                      refine s_iadd C dX10_conditionFault_145 (by omega) (fun z791 tz791 => ?_)
                      refine s_callVI (st := []) C (c_X10_behindUnit l ad τ z791 (by omega) (by omega) (by omega)) cv_X10_263 y71 rfl rfl rfl ⟨by decide, by decide⟩ (Nat.le_of_ble_eq_true rfl) dX10_conditionFault_146 ?_
                      intro r792 τ793 h794
                      obtain ⟨eh794, h794⟩ := h794; replace eh794 := eh794.symm; subst eh794
                      have uh794 := h794.2.2
                      rw [f0, f17, e86] at uh794
                      have vh794 : 0 ≤ Int32.toInt r792 → Int32.toInt r792 ≤ Int32.toInt (σ.1 71 17) := fun q => by have := un_le (uh794 q).2; omega
                      skip
                      refine s_istore_n C dX10_conditionFault_149 (by decide) (Nat.le_of_ble_eq_true rfl) rfl ?_
                      show WP E ad 150 [some (.ref (ad 71)), some (.int y), some (.int r792), some (.int (τ.1 86 z.toNatClampNeg))] [] τ
                      refine s_iconst C dX10_conditionFault_150 (by decide) (fun z795 tz795 => ?_)
                      refine s_istore_n C dX10_conditionFault_151 (by decide) (Nat.le_of_ble_eq_true rfl) rfl ?_
                      show WP E ad 152 [some (.ref (ad 71)), some (.int z795), some (.int r792), some (.int (τ.1 86 z.toNatClampNeg))] [] τ
                      refine s_goto (tgt := 230) C dX10_conditionFault_152 (by decide) ?_
                      refine s_iload_n C dX10_conditionFault_230 rfl ?_
                      refine s_if_ge (tgt := 238) C dX10_conditionFault_231 (by decide) (fun q796 => ?_) (fun q796 => ?_)
                      · refine s_goto (tgt := 9) C dX10_conditionFault_238 (by decide) ?_
                        refine wp_le (lv' := [some (.ref (ad 71)), some (.int z795), some (.int r792), none]) ⟨rfl, ⟨rfl, ⟨rfl, trivial⟩⟩⟩ ?_
                        have ez1 : z791.toInt.toNat = z.toInt.toNat + 1 := by omega
                        rw [ez1] at uh794
                        exact ih τ o z795 r792 (Fr.tr Fr.rf (Fr.mo kF (by decide) (by decide))) hd ho (by omega) (by omega) (by omega) (fun ⟨f, hf⟩ => hac ⟨f + 1, Or.inr ⟨by omega, Or.inr (Or.inr (Or.inr (Or.inl ⟨by omega, by omega, _, (uh794 (by omega)).2, (by rw [show z795.toInt.toNat = 2 by omega] at hf; exact hf)⟩)))⟩⟩) (by omega)
                      · refine s_iconst C dX10_conditionFault_234 (by decide) (fun z797 tz797 => ?_)
                        refine s_iload_n C dX10_conditionFault_235 rfl ?_
                        refine s_isub C dX10_conditionFault_236 (by omega) (fun z798 tz798 => ?_)
                        exact s_iret C X dX10_conditionFault_237 ⟨(Fr.tr Fr.rf (Fr.mo kF (by decide) (by decide))), by omega, by omega, fun q => by omega⟩
            · refine s_iload_n C dX10_conditionFault_103 rfl ?_
              refine s_iconst C dX10_conditionFault_104 (by decide) (fun z799 tz799 => ?_)
              refine s_icmp_ge (tgt := 119) C dX10_conditionFault_105 (by decide) (fun q800 => ?_) (fun q800 => ?_)
              · refine s_iload_n C dX10_conditionFault_119 rfl ?_
                refine s_bipush C dX10_conditionFault_120 (by decide) (fun z801 tz801 => ?_)
                refine s_icmp_eq (tgt := 137) C dX10_conditionFault_122 (by decide) (fun q802 => ?_) (fun q802 => ?_)
                · refine s_iload_n C dX10_conditionFault_137 rfl ?_
                  refine s_iconst C dX10_conditionFault_138 (by decide) (fun z803 tz803 => ?_)
                  refine s_icmp_ne (tgt := 155) C dX10_conditionFault_139 (by decide) (fun q804 => ?_) (fun q804 => ?_)
                  · refine s_iload_n C dX10_conditionFault_155 rfl ?_
                    refine s_bipush C dX10_conditionFault_156 (by decide) (fun z805 tz805 => ?_)
                    refine s_icmp_eq (tgt := 167) C dX10_conditionFault_158 (by decide) (fun q806 => ?_) (fun q806 => ?_)
                    · refine s_iload_n C dX10_conditionFault_167 rfl ?_
                      refine s_iconst C dX10_conditionFault_168 (by decide) (fun z807 tz807 => ?_)
                      refine s_icmp_le (tgt := 184) C dX10_conditionFault_169 (by decide) (fun q808 => ?_) (fun q808 => ?_)
                      · refine s_iload_n C dX10_conditionFault_184 rfl ?_
                        refine s_bipush C dX10_conditionFault_185 (by decide) (fun z809 tz809 => ?_)
                        refine s_icmp_ne (tgt := 228) C dX10_conditionFault_187 (by decide) (fun q810 => ?_) (fun q810 => ?_)
                        · refine s_iload_n C dX10_conditionFault_228 rfl ?_
                          exact s_iret C X dX10_conditionFault_229 ⟨(Fr.tr Fr.rf (Fr.mo kF (by decide) (by decide))), by omega, by omega, fun q => by omega⟩
                        · refine s_iload_n C dX10_conditionFault_190 rfl ?_
                          refine s_iconst C dX10_conditionFault_191 (by decide) (fun z811 tz811 => ?_)
                          refine s_icmp_le (tgt := 228) C dX10_conditionFault_192 (by decide) (fun q812 => ?_) (fun q812 => ?_)
                          · refine s_iload_n C dX10_conditionFault_228 rfl ?_
                            exact s_iret C X dX10_conditionFault_229 ⟨(Fr.tr Fr.rf (Fr.mo kF (by decide) (by decide))), by omega, by omega, fun q => by omega⟩
                          · refine s_aload_n C dX10_conditionFault_195 rfl ?_
                            refine s_callVI (st := []) C (c_X10_isOpen l ad τ o hd ho (by omega)) cv_X10_269 y71 rfl rfl rfl ⟨by decide, by decide⟩ (Nat.le_of_ble_eq_true rfl) dX10_conditionFault_196 ?_
                            intro r813 τ814 h815
                            obtain ⟨eh815, h815⟩ := h815; replace eh815 := eh815.symm; subst eh815
                            have mh815 := h815.2
                            refine s_if_eq (tgt := 228) C dX10_conditionFault_199 (by decide) (fun q816 => ?_) (fun q816 => ?_)
                            · refine s_iload_n C dX10_conditionFault_228 rfl ?_
                              exact s_iret C X dX10_conditionFault_229 ⟨(Fr.tr Fr.rf (Fr.mo kF (by decide) (by decide))), by omega, by omega, fun q => by omega⟩
                            · refine s_aload_n C dX10_conditionFault_202 rfl ?_
                              refine s_callVV (st := []) C (c_X10_testEnds l ad τ o hd ho (by omega)) cv_X10_266 y71 rfl rfl rfl ⟨by decide, by decide⟩ (Nat.le_of_ble_eq_true rfl) dX10_conditionFault_203 ?_
                              intro τ818 h819
                              have dτ818 : Int32.toInt (τ818.1 71 49) = (te o).length := h819.2
                              have pτ818 : Op (τ818.1 109) (te o) := by rw [h819.1.a 109 (by decide) (by decide)]; exact Op_te o ho
                              have qτ818 := te_len o
                              obtain ⟨r6, hr6⟩ := te_hd (mh815.mp (by omega))
                              have hl6 : 1 ≤ (te o).length := by rw [hr6]; simp
                              refine s_aload_n C dX10_conditionFault_206 rfl ?_
                              refine s_dup C dX10_conditionFault_207 rfl ?_
                              refine s_get (k := 49) (x := (τ818.1 71 49)) C y71 fw_X10_260 rfl rfl dX10_conditionFault_208 ?_
                              refine s_iconst C dX10_conditionFault_211 (by decide) (fun z820 tz820 => ?_)
                              refine s_isub C dX10_conditionFault_212 (by omega) (fun z821 tz821 => ?_)
                              refine s_put (k := 49) C y71 fw_X10_260 fp_9_49 rfl dX10_conditionFault_213 ?_
                              refine s_aload_n C dX10_conditionFault_216 rfl ?_
                              refine s_callVV (st := []) C (c_X10_testEnds l ad (sV τ818 71 49 z821) (te o).tail (by show Int32.toInt z821 = _; rw [List.length_tail]; omega) (Op_tail _ pτ818) (by rw [List.length_tail]; omega)) cv_X10_266 y71 rfl rfl rfl ⟨by decide, by decide⟩ (Nat.le_of_ble_eq_true rfl) dX10_conditionFault_217 ?_
                              intro τ823 h824
                              have dτ823 : Int32.toInt (τ823.1 71 49) = (te (te o).tail).length := h824.2
                              have pτ823 : Op (τ823.1 109) (te (te o).tail) := by rw [h824.1.a 109 (by decide) (by decide)]; exact Op_te _ (Op_tail _ pτ818)
                              have qτ823 := te_len (te o).tail
                              have qqτ823 : (te o).tail.length = (te o).length - 1 := List.length_tail
                              skip
                              refine s_iconst C dX10_conditionFault_220 (by decide) (fun z825 tz825 => ?_)
                              refine s_istore_n C dX10_conditionFault_221 (by decide) (Nat.le_of_ble_eq_true rfl) rfl ?_
                              show WP E ad 222 [some (.ref (ad 71)), some (.int z825), some (.int z), some (.int (τ.1 86 z.toNatClampNeg))] [] τ823
                              refine s_iinc C dX10_conditionFault_222 rfl (by decide) rfl (by decide) (by omega) (fun z826 tz826 => ?_)
                              show WP E ad 225 [some (.ref (ad 71)), some (.int z825), some (.int z826), some (.int (τ.1 86 z.toNatClampNeg))] [] τ823
                              refine s_goto (tgt := 230) C dX10_conditionFault_225 (by decide) ?_
                              refine s_iload_n C dX10_conditionFault_230 rfl ?_
                              refine s_if_ge (tgt := 238) C dX10_conditionFault_231 (by decide) (fun q827 => ?_) (fun q827 => ?_)
                              · refine s_goto (tgt := 9) C dX10_conditionFault_238 (by decide) ?_
                                refine wp_le (lv' := [some (.ref (ad 71)), some (.int z825), some (.int z826), none]) ⟨rfl, ⟨rfl, ⟨rfl, trivial⟩⟩⟩ ?_
                                have ek1 : z826.toInt.toNat = z.toInt.toNat + 1 := by omega
                                exact ih τ823 (te (te o).tail) z825 z826 (Fr.tr (Fr.sV (Fr.tr (Fr.tr Fr.rf (Fr.mo kF (by decide) (by decide))) (Fr.mo h819.1 (by decide) (by decide))) (Or.inr (by decide))) (Fr.mo h824.1 (by decide) (by decide))) dτ823 pτ823 (by omega) (by omega) (by omega) (fun ⟨f, hf⟩ => hac ⟨f + 1, Or.inr ⟨by omega, Or.inr (Or.inr (Or.inr (Or.inr (Or.inr ⟨by omega, by omega, mh815.mp (by omega), (by rw [ek1, show z825.toInt.toNat = 3 by omega] at hf; exact hf)⟩))))⟩⟩) (by omega)
                              · refine s_iconst C dX10_conditionFault_234 (by decide) (fun z828 tz828 => ?_)
                                refine s_iload_n C dX10_conditionFault_235 rfl ?_
                                refine s_isub C dX10_conditionFault_236 (by omega) (fun z829 tz829 => ?_)
                                exact s_iret C X dX10_conditionFault_237 ⟨(Fr.tr (Fr.sV (Fr.tr (Fr.tr Fr.rf (Fr.mo kF (by decide) (by decide))) (Fr.mo h819.1 (by decide) (by decide))) (Or.inr (by decide))) (Fr.mo h824.1 (by decide) (by decide))), by omega, by omega, fun q => by omega⟩
                      · refine s_aload_n C dX10_conditionFault_172 rfl ?_
                        refine s_callVV (st := []) C (c_X10_testEnds l ad τ o hd ho (by omega)) cv_X10_266 y71 rfl rfl rfl ⟨by decide, by decide⟩ (Nat.le_of_ble_eq_true rfl) dX10_conditionFault_173 ?_
                        intro τ831 h832
                        have dτ831 : Int32.toInt (τ831.1 71 49) = (te o).length := h832.2
                        have pτ831 : Op (τ831.1 109) (te o) := by rw [h832.1.a 109 (by decide) (by decide)]; exact Op_te o ho
                        have qτ831 := te_len o
                        skip
                        refine s_iconst C dX10_conditionFault_176 (by decide) (fun z833 tz833 => ?_)
                        refine s_istore_n C dX10_conditionFault_177 (by decide) (Nat.le_of_ble_eq_true rfl) rfl ?_
                        show WP E ad 178 [some (.ref (ad 71)), some (.int z833), some (.int z), some (.int (τ.1 86 z.toNatClampNeg))] [] τ831
                        refine s_iinc C dX10_conditionFault_178 rfl (by decide) rfl (by decide) (by omega) (fun z834 tz834 => ?_)
                        show WP E ad 181 [some (.ref (ad 71)), some (.int z833), some (.int z834), some (.int (τ.1 86 z.toNatClampNeg))] [] τ831
                        refine s_goto (tgt := 230) C dX10_conditionFault_181 (by decide) ?_
                        refine s_iload_n C dX10_conditionFault_230 rfl ?_
                        refine s_if_ge (tgt := 238) C dX10_conditionFault_231 (by decide) (fun q835 => ?_) (fun q835 => ?_)
                        · refine s_goto (tgt := 9) C dX10_conditionFault_238 (by decide) ?_
                          refine wp_le (lv' := [some (.ref (ad 71)), some (.int z833), some (.int z834), none]) ⟨rfl, ⟨rfl, ⟨rfl, trivial⟩⟩⟩ ?_
                          have ek1 : z834.toInt.toNat = z.toInt.toNat + 1 := by omega
                          exact ih τ831 (te o) z833 z834 (Fr.tr (Fr.tr Fr.rf (Fr.mo kF (by decide) (by decide))) (Fr.mo h832.1 (by decide) (by decide))) dτ831 pτ831 (by omega) (by omega) (by omega) (fun ⟨f, hf⟩ => hac ⟨f + 1, Or.inr ⟨by omega, Or.inr (Or.inr (Or.inr (Or.inr (Or.inl ⟨by omega, by omega, (by rw [ek1, show z833.toInt.toNat = 0 by omega] at hf; exact hf)⟩))))⟩⟩) (by omega)
                        · refine s_iconst C dX10_conditionFault_234 (by decide) (fun z836 tz836 => ?_)
                          refine s_iload_n C dX10_conditionFault_235 rfl ?_
                          refine s_isub C dX10_conditionFault_236 (by omega) (fun z837 tz837 => ?_)
                          exact s_iret C X dX10_conditionFault_237 ⟨(Fr.tr (Fr.tr Fr.rf (Fr.mo kF (by decide) (by decide))) (Fr.mo h832.1 (by decide) (by decide))), by omega, by omega, fun q => by omega⟩
                    · refine s_iload_n C dX10_conditionFault_161 rfl ?_
                      refine s_bipush C dX10_conditionFault_162 (by decide) (fun z838 tz838 => ?_)
                      refine s_icmp_ne (tgt := 184) C dX10_conditionFault_164 (by decide) (fun q839 => ?_) (fun q839 => ?_)
                      · refine s_iload_n C dX10_conditionFault_184 rfl ?_
                        refine s_bipush C dX10_conditionFault_185 (by decide) (fun z840 tz840 => ?_)
                        refine s_icmp_ne (tgt := 228) C dX10_conditionFault_187 (by decide) (fun q841 => ?_) (fun q841 => ?_)
                        · refine s_iload_n C dX10_conditionFault_228 rfl ?_
                          exact s_iret C X dX10_conditionFault_229 ⟨(Fr.tr Fr.rf (Fr.mo kF (by decide) (by decide))), by omega, by omega, fun q => by omega⟩
                        · refine s_iload_n C dX10_conditionFault_190 rfl ?_
                          refine s_iconst C dX10_conditionFault_191 (by decide) (fun z842 tz842 => ?_)
                          refine s_icmp_le (tgt := 228) C dX10_conditionFault_192 (by decide) (fun q843 => ?_) (fun q843 => ?_)
                          · refine s_iload_n C dX10_conditionFault_228 rfl ?_
                            exact s_iret C X dX10_conditionFault_229 ⟨(Fr.tr Fr.rf (Fr.mo kF (by decide) (by decide))), by omega, by omega, fun q => by omega⟩
                          · refine s_aload_n C dX10_conditionFault_195 rfl ?_
                            refine s_callVI (st := []) C (c_X10_isOpen l ad τ o hd ho (by omega)) cv_X10_269 y71 rfl rfl rfl ⟨by decide, by decide⟩ (Nat.le_of_ble_eq_true rfl) dX10_conditionFault_196 ?_
                            intro r844 τ845 h846
                            obtain ⟨eh846, h846⟩ := h846; replace eh846 := eh846.symm; subst eh846
                            have mh846 := h846.2
                            refine s_if_eq (tgt := 228) C dX10_conditionFault_199 (by decide) (fun q847 => ?_) (fun q847 => ?_)
                            · refine s_iload_n C dX10_conditionFault_228 rfl ?_
                              exact s_iret C X dX10_conditionFault_229 ⟨(Fr.tr Fr.rf (Fr.mo kF (by decide) (by decide))), by omega, by omega, fun q => by omega⟩
                            · refine s_aload_n C dX10_conditionFault_202 rfl ?_
                              refine s_callVV (st := []) C (c_X10_testEnds l ad τ o hd ho (by omega)) cv_X10_266 y71 rfl rfl rfl ⟨by decide, by decide⟩ (Nat.le_of_ble_eq_true rfl) dX10_conditionFault_203 ?_
                              intro τ849 h850
                              have dτ849 : Int32.toInt (τ849.1 71 49) = (te o).length := h850.2
                              have pτ849 : Op (τ849.1 109) (te o) := by rw [h850.1.a 109 (by decide) (by decide)]; exact Op_te o ho
                              have qτ849 := te_len o
                              obtain ⟨r6, hr6⟩ := te_hd (mh846.mp (by omega))
                              have hl6 : 1 ≤ (te o).length := by rw [hr6]; simp
                              refine s_aload_n C dX10_conditionFault_206 rfl ?_
                              refine s_dup C dX10_conditionFault_207 rfl ?_
                              refine s_get (k := 49) (x := (τ849.1 71 49)) C y71 fw_X10_260 rfl rfl dX10_conditionFault_208 ?_
                              refine s_iconst C dX10_conditionFault_211 (by decide) (fun z851 tz851 => ?_)
                              refine s_isub C dX10_conditionFault_212 (by omega) (fun z852 tz852 => ?_)
                              refine s_put (k := 49) C y71 fw_X10_260 fp_9_49 rfl dX10_conditionFault_213 ?_
                              refine s_aload_n C dX10_conditionFault_216 rfl ?_
                              refine s_callVV (st := []) C (c_X10_testEnds l ad (sV τ849 71 49 z852) (te o).tail (by show Int32.toInt z852 = _; rw [List.length_tail]; omega) (Op_tail _ pτ849) (by rw [List.length_tail]; omega)) cv_X10_266 y71 rfl rfl rfl ⟨by decide, by decide⟩ (Nat.le_of_ble_eq_true rfl) dX10_conditionFault_217 ?_
                              intro τ854 h855
                              have dτ854 : Int32.toInt (τ854.1 71 49) = (te (te o).tail).length := h855.2
                              have pτ854 : Op (τ854.1 109) (te (te o).tail) := by rw [h855.1.a 109 (by decide) (by decide)]; exact Op_te _ (Op_tail _ pτ849)
                              have qτ854 := te_len (te o).tail
                              have qqτ854 : (te o).tail.length = (te o).length - 1 := List.length_tail
                              skip
                              refine s_iconst C dX10_conditionFault_220 (by decide) (fun z856 tz856 => ?_)
                              refine s_istore_n C dX10_conditionFault_221 (by decide) (Nat.le_of_ble_eq_true rfl) rfl ?_
                              show WP E ad 222 [some (.ref (ad 71)), some (.int z856), some (.int z), some (.int (τ.1 86 z.toNatClampNeg))] [] τ854
                              refine s_iinc C dX10_conditionFault_222 rfl (by decide) rfl (by decide) (by omega) (fun z857 tz857 => ?_)
                              show WP E ad 225 [some (.ref (ad 71)), some (.int z856), some (.int z857), some (.int (τ.1 86 z.toNatClampNeg))] [] τ854
                              refine s_goto (tgt := 230) C dX10_conditionFault_225 (by decide) ?_
                              refine s_iload_n C dX10_conditionFault_230 rfl ?_
                              refine s_if_ge (tgt := 238) C dX10_conditionFault_231 (by decide) (fun q858 => ?_) (fun q858 => ?_)
                              · refine s_goto (tgt := 9) C dX10_conditionFault_238 (by decide) ?_
                                refine wp_le (lv' := [some (.ref (ad 71)), some (.int z856), some (.int z857), none]) ⟨rfl, ⟨rfl, ⟨rfl, trivial⟩⟩⟩ ?_
                                have ek1 : z857.toInt.toNat = z.toInt.toNat + 1 := by omega
                                exact ih τ854 (te (te o).tail) z856 z857 (Fr.tr (Fr.sV (Fr.tr (Fr.tr Fr.rf (Fr.mo kF (by decide) (by decide))) (Fr.mo h850.1 (by decide) (by decide))) (Or.inr (by decide))) (Fr.mo h855.1 (by decide) (by decide))) dτ854 pτ854 (by omega) (by omega) (by omega) (fun ⟨f, hf⟩ => hac ⟨f + 1, Or.inr ⟨by omega, Or.inr (Or.inr (Or.inr (Or.inr (Or.inr ⟨by omega, by omega, mh846.mp (by omega), (by rw [ek1, show z856.toInt.toNat = 3 by omega] at hf; exact hf)⟩))))⟩⟩) (by omega)
                              · refine s_iconst C dX10_conditionFault_234 (by decide) (fun z859 tz859 => ?_)
                                refine s_iload_n C dX10_conditionFault_235 rfl ?_
                                refine s_isub C dX10_conditionFault_236 (by omega) (fun z860 tz860 => ?_)
                                exact s_iret C X dX10_conditionFault_237 ⟨(Fr.tr (Fr.sV (Fr.tr (Fr.tr Fr.rf (Fr.mo kF (by decide) (by decide))) (Fr.mo h850.1 (by decide) (by decide))) (Or.inr (by decide))) (Fr.mo h855.1 (by decide) (by decide))), by omega, by omega, fun q => by omega⟩
                      · refine s_iload_n C dX10_conditionFault_167 rfl ?_
                        refine s_iconst C dX10_conditionFault_168 (by decide) (fun z861 tz861 => ?_)
                        refine s_icmp_le (tgt := 184) C dX10_conditionFault_169 (by decide) (fun q862 => ?_) (fun q862 => ?_)
                        · refine s_iload_n C dX10_conditionFault_184 rfl ?_
                          refine s_bipush C dX10_conditionFault_185 (by decide) (fun z863 tz863 => ?_)
                          refine s_icmp_ne (tgt := 228) C dX10_conditionFault_187 (by decide) (fun q864 => ?_) (fun q864 => ?_)
                          · refine s_iload_n C dX10_conditionFault_228 rfl ?_
                            exact s_iret C X dX10_conditionFault_229 ⟨(Fr.tr Fr.rf (Fr.mo kF (by decide) (by decide))), by omega, by omega, fun q => by omega⟩
                          · refine s_iload_n C dX10_conditionFault_190 rfl ?_
                            refine s_iconst C dX10_conditionFault_191 (by decide) (fun z865 tz865 => ?_)
                            refine s_icmp_le (tgt := 228) C dX10_conditionFault_192 (by decide) (fun q866 => ?_) (fun q866 => ?_)
                            · refine s_iload_n C dX10_conditionFault_228 rfl ?_
                              exact s_iret C X dX10_conditionFault_229 ⟨(Fr.tr Fr.rf (Fr.mo kF (by decide) (by decide))), by omega, by omega, fun q => by omega⟩
                            · refine s_aload_n C dX10_conditionFault_195 rfl ?_
                              refine s_callVI (st := []) C (c_X10_isOpen l ad τ o hd ho (by omega)) cv_X10_269 y71 rfl rfl rfl ⟨by decide, by decide⟩ (Nat.le_of_ble_eq_true rfl) dX10_conditionFault_196 ?_
                              intro r867 τ868 h869
                              obtain ⟨eh869, h869⟩ := h869; replace eh869 := eh869.symm; subst eh869
                              have mh869 := h869.2
                              refine s_if_eq (tgt := 228) C dX10_conditionFault_199 (by decide) (fun q870 => ?_) (fun q870 => ?_)
                              · refine s_iload_n C dX10_conditionFault_228 rfl ?_
                                exact s_iret C X dX10_conditionFault_229 ⟨(Fr.tr Fr.rf (Fr.mo kF (by decide) (by decide))), by omega, by omega, fun q => by omega⟩
                              · refine s_aload_n C dX10_conditionFault_202 rfl ?_
                                refine s_callVV (st := []) C (c_X10_testEnds l ad τ o hd ho (by omega)) cv_X10_266 y71 rfl rfl rfl ⟨by decide, by decide⟩ (Nat.le_of_ble_eq_true rfl) dX10_conditionFault_203 ?_
                                intro τ872 h873
                                have dτ872 : Int32.toInt (τ872.1 71 49) = (te o).length := h873.2
                                have pτ872 : Op (τ872.1 109) (te o) := by rw [h873.1.a 109 (by decide) (by decide)]; exact Op_te o ho
                                have qτ872 := te_len o
                                obtain ⟨r6, hr6⟩ := te_hd (mh869.mp (by omega))
                                have hl6 : 1 ≤ (te o).length := by rw [hr6]; simp
                                refine s_aload_n C dX10_conditionFault_206 rfl ?_
                                refine s_dup C dX10_conditionFault_207 rfl ?_
                                refine s_get (k := 49) (x := (τ872.1 71 49)) C y71 fw_X10_260 rfl rfl dX10_conditionFault_208 ?_
                                refine s_iconst C dX10_conditionFault_211 (by decide) (fun z874 tz874 => ?_)
                                refine s_isub C dX10_conditionFault_212 (by omega) (fun z875 tz875 => ?_)
                                refine s_put (k := 49) C y71 fw_X10_260 fp_9_49 rfl dX10_conditionFault_213 ?_
                                refine s_aload_n C dX10_conditionFault_216 rfl ?_
                                refine s_callVV (st := []) C (c_X10_testEnds l ad (sV τ872 71 49 z875) (te o).tail (by show Int32.toInt z875 = _; rw [List.length_tail]; omega) (Op_tail _ pτ872) (by rw [List.length_tail]; omega)) cv_X10_266 y71 rfl rfl rfl ⟨by decide, by decide⟩ (Nat.le_of_ble_eq_true rfl) dX10_conditionFault_217 ?_
                                intro τ877 h878
                                have dτ877 : Int32.toInt (τ877.1 71 49) = (te (te o).tail).length := h878.2
                                have pτ877 : Op (τ877.1 109) (te (te o).tail) := by rw [h878.1.a 109 (by decide) (by decide)]; exact Op_te _ (Op_tail _ pτ872)
                                have qτ877 := te_len (te o).tail
                                have qqτ877 : (te o).tail.length = (te o).length - 1 := List.length_tail
                                skip
                                refine s_iconst C dX10_conditionFault_220 (by decide) (fun z879 tz879 => ?_)
                                refine s_istore_n C dX10_conditionFault_221 (by decide) (Nat.le_of_ble_eq_true rfl) rfl ?_
                                show WP E ad 222 [some (.ref (ad 71)), some (.int z879), some (.int z), some (.int (τ.1 86 z.toNatClampNeg))] [] τ877
                                refine s_iinc C dX10_conditionFault_222 rfl (by decide) rfl (by decide) (by omega) (fun z880 tz880 => ?_)
                                show WP E ad 225 [some (.ref (ad 71)), some (.int z879), some (.int z880), some (.int (τ.1 86 z.toNatClampNeg))] [] τ877
                                refine s_goto (tgt := 230) C dX10_conditionFault_225 (by decide) ?_
                                refine s_iload_n C dX10_conditionFault_230 rfl ?_
                                refine s_if_ge (tgt := 238) C dX10_conditionFault_231 (by decide) (fun q881 => ?_) (fun q881 => ?_)
                                · refine s_goto (tgt := 9) C dX10_conditionFault_238 (by decide) ?_
                                  refine wp_le (lv' := [some (.ref (ad 71)), some (.int z879), some (.int z880), none]) ⟨rfl, ⟨rfl, ⟨rfl, trivial⟩⟩⟩ ?_
                                  have ek1 : z880.toInt.toNat = z.toInt.toNat + 1 := by omega
                                  exact ih τ877 (te (te o).tail) z879 z880 (Fr.tr (Fr.sV (Fr.tr (Fr.tr Fr.rf (Fr.mo kF (by decide) (by decide))) (Fr.mo h873.1 (by decide) (by decide))) (Or.inr (by decide))) (Fr.mo h878.1 (by decide) (by decide))) dτ877 pτ877 (by omega) (by omega) (by omega) (fun ⟨f, hf⟩ => hac ⟨f + 1, Or.inr ⟨by omega, Or.inr (Or.inr (Or.inr (Or.inr (Or.inr ⟨by omega, by omega, mh869.mp (by omega), (by rw [ek1, show z879.toInt.toNat = 3 by omega] at hf; exact hf)⟩))))⟩⟩) (by omega)
                                · refine s_iconst C dX10_conditionFault_234 (by decide) (fun z882 tz882 => ?_)
                                  refine s_iload_n C dX10_conditionFault_235 rfl ?_
                                  refine s_isub C dX10_conditionFault_236 (by omega) (fun z883 tz883 => ?_)
                                  exact s_iret C X dX10_conditionFault_237 ⟨(Fr.tr (Fr.sV (Fr.tr (Fr.tr Fr.rf (Fr.mo kF (by decide) (by decide))) (Fr.mo h873.1 (by decide) (by decide))) (Or.inr (by decide))) (Fr.mo h878.1 (by decide) (by decide))), by omega, by omega, fun q => by omega⟩
                        · refine s_aload_n C dX10_conditionFault_172 rfl ?_
                          refine s_callVV (st := []) C (c_X10_testEnds l ad τ o hd ho (by omega)) cv_X10_266 y71 rfl rfl rfl ⟨by decide, by decide⟩ (Nat.le_of_ble_eq_true rfl) dX10_conditionFault_173 ?_
                          intro τ885 h886
                          have dτ885 : Int32.toInt (τ885.1 71 49) = (te o).length := h886.2
                          have pτ885 : Op (τ885.1 109) (te o) := by rw [h886.1.a 109 (by decide) (by decide)]; exact Op_te o ho
                          have qτ885 := te_len o
                          skip
                          refine s_iconst C dX10_conditionFault_176 (by decide) (fun z887 tz887 => ?_)
                          refine s_istore_n C dX10_conditionFault_177 (by decide) (Nat.le_of_ble_eq_true rfl) rfl ?_
                          show WP E ad 178 [some (.ref (ad 71)), some (.int z887), some (.int z), some (.int (τ.1 86 z.toNatClampNeg))] [] τ885
                          refine s_iinc C dX10_conditionFault_178 rfl (by decide) rfl (by decide) (by omega) (fun z888 tz888 => ?_)
                          show WP E ad 181 [some (.ref (ad 71)), some (.int z887), some (.int z888), some (.int (τ.1 86 z.toNatClampNeg))] [] τ885
                          refine s_goto (tgt := 230) C dX10_conditionFault_181 (by decide) ?_
                          refine s_iload_n C dX10_conditionFault_230 rfl ?_
                          refine s_if_ge (tgt := 238) C dX10_conditionFault_231 (by decide) (fun q889 => ?_) (fun q889 => ?_)
                          · refine s_goto (tgt := 9) C dX10_conditionFault_238 (by decide) ?_
                            refine wp_le (lv' := [some (.ref (ad 71)), some (.int z887), some (.int z888), none]) ⟨rfl, ⟨rfl, ⟨rfl, trivial⟩⟩⟩ ?_
                            have ek1 : z888.toInt.toNat = z.toInt.toNat + 1 := by omega
                            exact ih τ885 (te o) z887 z888 (Fr.tr (Fr.tr Fr.rf (Fr.mo kF (by decide) (by decide))) (Fr.mo h886.1 (by decide) (by decide))) dτ885 pτ885 (by omega) (by omega) (by omega) (fun ⟨f, hf⟩ => hac ⟨f + 1, Or.inr ⟨by omega, Or.inr (Or.inr (Or.inr (Or.inr (Or.inl ⟨by omega, by omega, (by rw [ek1, show z887.toInt.toNat = 0 by omega] at hf; exact hf)⟩))))⟩⟩) (by omega)
                          · refine s_iconst C dX10_conditionFault_234 (by decide) (fun z890 tz890 => ?_)
                            refine s_iload_n C dX10_conditionFault_235 rfl ?_
                            refine s_isub C dX10_conditionFault_236 (by omega) (fun z891 tz891 => ?_)
                            exact s_iret C X dX10_conditionFault_237 ⟨(Fr.tr (Fr.tr Fr.rf (Fr.mo kF (by decide) (by decide))) (Fr.mo h886.1 (by decide) (by decide))), by omega, by omega, fun q => by omega⟩
                  · refine s_aload_n C dX10_conditionFault_142 rfl ?_
                    refine s_iload_n C dX10_conditionFault_143 rfl ?_
                    refine s_iconst C dX10_conditionFault_144 (by decide) (fun z892 tz892 => ?_)
                    refine s_iadd C dX10_conditionFault_145 (by omega) (fun z893 tz893 => ?_)
                    refine s_callVI (st := []) C (c_X10_behindUnit l ad τ z893 (by omega) (by omega) (by omega)) cv_X10_263 y71 rfl rfl rfl ⟨by decide, by decide⟩ (Nat.le_of_ble_eq_true rfl) dX10_conditionFault_146 ?_
                    intro r894 τ895 h896
                    obtain ⟨eh896, h896⟩ := h896; replace eh896 := eh896.symm; subst eh896
                    have uh896 := h896.2.2
                    rw [f0, f17, e86] at uh896
                    have vh896 : 0 ≤ Int32.toInt r894 → Int32.toInt r894 ≤ Int32.toInt (σ.1 71 17) := fun q => by have := un_le (uh896 q).2; omega
                    skip
                    refine s_istore_n C dX10_conditionFault_149 (by decide) (Nat.le_of_ble_eq_true rfl) rfl ?_
                    show WP E ad 150 [some (.ref (ad 71)), some (.int y), some (.int r894), some (.int (τ.1 86 z.toNatClampNeg))] [] τ
                    refine s_iconst C dX10_conditionFault_150 (by decide) (fun z897 tz897 => ?_)
                    refine s_istore_n C dX10_conditionFault_151 (by decide) (Nat.le_of_ble_eq_true rfl) rfl ?_
                    show WP E ad 152 [some (.ref (ad 71)), some (.int z897), some (.int r894), some (.int (τ.1 86 z.toNatClampNeg))] [] τ
                    refine s_goto (tgt := 230) C dX10_conditionFault_152 (by decide) ?_
                    refine s_iload_n C dX10_conditionFault_230 rfl ?_
                    refine s_if_ge (tgt := 238) C dX10_conditionFault_231 (by decide) (fun q898 => ?_) (fun q898 => ?_)
                    · refine s_goto (tgt := 9) C dX10_conditionFault_238 (by decide) ?_
                      refine wp_le (lv' := [some (.ref (ad 71)), some (.int z897), some (.int r894), none]) ⟨rfl, ⟨rfl, ⟨rfl, trivial⟩⟩⟩ ?_
                      have ez1 : z893.toInt.toNat = z.toInt.toNat + 1 := by omega
                      rw [ez1] at uh896
                      exact ih τ o z897 r894 (Fr.tr Fr.rf (Fr.mo kF (by decide) (by decide))) hd ho (by omega) (by omega) (by omega) (fun ⟨f, hf⟩ => hac ⟨f + 1, Or.inr ⟨by omega, Or.inr (Or.inr (Or.inr (Or.inl ⟨by omega, by omega, _, (uh896 (by omega)).2, (by rw [show z897.toInt.toNat = 2 by omega] at hf; exact hf)⟩)))⟩⟩) (by omega)
                    · refine s_iconst C dX10_conditionFault_234 (by decide) (fun z899 tz899 => ?_)
                      refine s_iload_n C dX10_conditionFault_235 rfl ?_
                      refine s_isub C dX10_conditionFault_236 (by omega) (fun z900 tz900 => ?_)
                      exact s_iret C X dX10_conditionFault_237 ⟨(Fr.tr Fr.rf (Fr.mo kF (by decide) (by decide))), by omega, by omega, fun q => by omega⟩
                · refine s_iload_n C dX10_conditionFault_125 rfl ?_
                  refine s_bipush C dX10_conditionFault_126 (by decide) (fun z901 tz901 => ?_)
                  refine s_icmp_eq (tgt := 137) C dX10_conditionFault_128 (by decide) (fun q902 => ?_) (fun q902 => ?_)
                  · refine s_iload_n C dX10_conditionFault_137 rfl ?_
                    refine s_iconst C dX10_conditionFault_138 (by decide) (fun z903 tz903 => ?_)
                    refine s_icmp_ne (tgt := 155) C dX10_conditionFault_139 (by decide) (fun q904 => ?_) (fun q904 => ?_)
                    · refine s_iload_n C dX10_conditionFault_155 rfl ?_
                      refine s_bipush C dX10_conditionFault_156 (by decide) (fun z905 tz905 => ?_)
                      refine s_icmp_eq (tgt := 167) C dX10_conditionFault_158 (by decide) (fun q906 => ?_) (fun q906 => ?_)
                      · refine s_iload_n C dX10_conditionFault_167 rfl ?_
                        refine s_iconst C dX10_conditionFault_168 (by decide) (fun z907 tz907 => ?_)
                        refine s_icmp_le (tgt := 184) C dX10_conditionFault_169 (by decide) (fun q908 => ?_) (fun q908 => ?_)
                        · refine s_iload_n C dX10_conditionFault_184 rfl ?_
                          refine s_bipush C dX10_conditionFault_185 (by decide) (fun z909 tz909 => ?_)
                          refine s_icmp_ne (tgt := 228) C dX10_conditionFault_187 (by decide) (fun q910 => ?_) (fun q910 => ?_)
                          · refine s_iload_n C dX10_conditionFault_228 rfl ?_
                            exact s_iret C X dX10_conditionFault_229 ⟨(Fr.tr Fr.rf (Fr.mo kF (by decide) (by decide))), by omega, by omega, fun q => by omega⟩
                          · refine s_iload_n C dX10_conditionFault_190 rfl ?_
                            refine s_iconst C dX10_conditionFault_191 (by decide) (fun z911 tz911 => ?_)
                            refine s_icmp_le (tgt := 228) C dX10_conditionFault_192 (by decide) (fun q912 => ?_) (fun q912 => ?_)
                            · refine s_iload_n C dX10_conditionFault_228 rfl ?_
                              exact s_iret C X dX10_conditionFault_229 ⟨(Fr.tr Fr.rf (Fr.mo kF (by decide) (by decide))), by omega, by omega, fun q => by omega⟩
                            · refine s_aload_n C dX10_conditionFault_195 rfl ?_
                              refine s_callVI (st := []) C (c_X10_isOpen l ad τ o hd ho (by omega)) cv_X10_269 y71 rfl rfl rfl ⟨by decide, by decide⟩ (Nat.le_of_ble_eq_true rfl) dX10_conditionFault_196 ?_
                              intro r913 τ914 h915
                              obtain ⟨eh915, h915⟩ := h915; replace eh915 := eh915.symm; subst eh915
                              have mh915 := h915.2
                              refine s_if_eq (tgt := 228) C dX10_conditionFault_199 (by decide) (fun q916 => ?_) (fun q916 => ?_)
                              · refine s_iload_n C dX10_conditionFault_228 rfl ?_
                                exact s_iret C X dX10_conditionFault_229 ⟨(Fr.tr Fr.rf (Fr.mo kF (by decide) (by decide))), by omega, by omega, fun q => by omega⟩
                              · refine s_aload_n C dX10_conditionFault_202 rfl ?_
                                refine s_callVV (st := []) C (c_X10_testEnds l ad τ o hd ho (by omega)) cv_X10_266 y71 rfl rfl rfl ⟨by decide, by decide⟩ (Nat.le_of_ble_eq_true rfl) dX10_conditionFault_203 ?_
                                intro τ918 h919
                                have dτ918 : Int32.toInt (τ918.1 71 49) = (te o).length := h919.2
                                have pτ918 : Op (τ918.1 109) (te o) := by rw [h919.1.a 109 (by decide) (by decide)]; exact Op_te o ho
                                have qτ918 := te_len o
                                obtain ⟨r6, hr6⟩ := te_hd (mh915.mp (by omega))
                                have hl6 : 1 ≤ (te o).length := by rw [hr6]; simp
                                refine s_aload_n C dX10_conditionFault_206 rfl ?_
                                refine s_dup C dX10_conditionFault_207 rfl ?_
                                refine s_get (k := 49) (x := (τ918.1 71 49)) C y71 fw_X10_260 rfl rfl dX10_conditionFault_208 ?_
                                refine s_iconst C dX10_conditionFault_211 (by decide) (fun z920 tz920 => ?_)
                                refine s_isub C dX10_conditionFault_212 (by omega) (fun z921 tz921 => ?_)
                                refine s_put (k := 49) C y71 fw_X10_260 fp_9_49 rfl dX10_conditionFault_213 ?_
                                refine s_aload_n C dX10_conditionFault_216 rfl ?_
                                refine s_callVV (st := []) C (c_X10_testEnds l ad (sV τ918 71 49 z921) (te o).tail (by show Int32.toInt z921 = _; rw [List.length_tail]; omega) (Op_tail _ pτ918) (by rw [List.length_tail]; omega)) cv_X10_266 y71 rfl rfl rfl ⟨by decide, by decide⟩ (Nat.le_of_ble_eq_true rfl) dX10_conditionFault_217 ?_
                                intro τ923 h924
                                have dτ923 : Int32.toInt (τ923.1 71 49) = (te (te o).tail).length := h924.2
                                have pτ923 : Op (τ923.1 109) (te (te o).tail) := by rw [h924.1.a 109 (by decide) (by decide)]; exact Op_te _ (Op_tail _ pτ918)
                                have qτ923 := te_len (te o).tail
                                have qqτ923 : (te o).tail.length = (te o).length - 1 := List.length_tail
                                skip
                                refine s_iconst C dX10_conditionFault_220 (by decide) (fun z925 tz925 => ?_)
                                refine s_istore_n C dX10_conditionFault_221 (by decide) (Nat.le_of_ble_eq_true rfl) rfl ?_
                                show WP E ad 222 [some (.ref (ad 71)), some (.int z925), some (.int z), some (.int (τ.1 86 z.toNatClampNeg))] [] τ923
                                refine s_iinc C dX10_conditionFault_222 rfl (by decide) rfl (by decide) (by omega) (fun z926 tz926 => ?_)
                                show WP E ad 225 [some (.ref (ad 71)), some (.int z925), some (.int z926), some (.int (τ.1 86 z.toNatClampNeg))] [] τ923
                                refine s_goto (tgt := 230) C dX10_conditionFault_225 (by decide) ?_
                                refine s_iload_n C dX10_conditionFault_230 rfl ?_
                                refine s_if_ge (tgt := 238) C dX10_conditionFault_231 (by decide) (fun q927 => ?_) (fun q927 => ?_)
                                · refine s_goto (tgt := 9) C dX10_conditionFault_238 (by decide) ?_
                                  refine wp_le (lv' := [some (.ref (ad 71)), some (.int z925), some (.int z926), none]) ⟨rfl, ⟨rfl, ⟨rfl, trivial⟩⟩⟩ ?_
                                  have ek1 : z926.toInt.toNat = z.toInt.toNat + 1 := by omega
                                  exact ih τ923 (te (te o).tail) z925 z926 (Fr.tr (Fr.sV (Fr.tr (Fr.tr Fr.rf (Fr.mo kF (by decide) (by decide))) (Fr.mo h919.1 (by decide) (by decide))) (Or.inr (by decide))) (Fr.mo h924.1 (by decide) (by decide))) dτ923 pτ923 (by omega) (by omega) (by omega) (fun ⟨f, hf⟩ => hac ⟨f + 1, Or.inr ⟨by omega, Or.inr (Or.inr (Or.inr (Or.inr (Or.inr ⟨by omega, by omega, mh915.mp (by omega), (by rw [ek1, show z925.toInt.toNat = 3 by omega] at hf; exact hf)⟩))))⟩⟩) (by omega)
                                · refine s_iconst C dX10_conditionFault_234 (by decide) (fun z928 tz928 => ?_)
                                  refine s_iload_n C dX10_conditionFault_235 rfl ?_
                                  refine s_isub C dX10_conditionFault_236 (by omega) (fun z929 tz929 => ?_)
                                  exact s_iret C X dX10_conditionFault_237 ⟨(Fr.tr (Fr.sV (Fr.tr (Fr.tr Fr.rf (Fr.mo kF (by decide) (by decide))) (Fr.mo h919.1 (by decide) (by decide))) (Or.inr (by decide))) (Fr.mo h924.1 (by decide) (by decide))), by omega, by omega, fun q => by omega⟩
                        · refine s_aload_n C dX10_conditionFault_172 rfl ?_
                          refine s_callVV (st := []) C (c_X10_testEnds l ad τ o hd ho (by omega)) cv_X10_266 y71 rfl rfl rfl ⟨by decide, by decide⟩ (Nat.le_of_ble_eq_true rfl) dX10_conditionFault_173 ?_
                          intro τ931 h932
                          have dτ931 : Int32.toInt (τ931.1 71 49) = (te o).length := h932.2
                          have pτ931 : Op (τ931.1 109) (te o) := by rw [h932.1.a 109 (by decide) (by decide)]; exact Op_te o ho
                          have qτ931 := te_len o
                          skip
                          refine s_iconst C dX10_conditionFault_176 (by decide) (fun z933 tz933 => ?_)
                          refine s_istore_n C dX10_conditionFault_177 (by decide) (Nat.le_of_ble_eq_true rfl) rfl ?_
                          show WP E ad 178 [some (.ref (ad 71)), some (.int z933), some (.int z), some (.int (τ.1 86 z.toNatClampNeg))] [] τ931
                          refine s_iinc C dX10_conditionFault_178 rfl (by decide) rfl (by decide) (by omega) (fun z934 tz934 => ?_)
                          show WP E ad 181 [some (.ref (ad 71)), some (.int z933), some (.int z934), some (.int (τ.1 86 z.toNatClampNeg))] [] τ931
                          refine s_goto (tgt := 230) C dX10_conditionFault_181 (by decide) ?_
                          refine s_iload_n C dX10_conditionFault_230 rfl ?_
                          refine s_if_ge (tgt := 238) C dX10_conditionFault_231 (by decide) (fun q935 => ?_) (fun q935 => ?_)
                          · refine s_goto (tgt := 9) C dX10_conditionFault_238 (by decide) ?_
                            refine wp_le (lv' := [some (.ref (ad 71)), some (.int z933), some (.int z934), none]) ⟨rfl, ⟨rfl, ⟨rfl, trivial⟩⟩⟩ ?_
                            have ek1 : z934.toInt.toNat = z.toInt.toNat + 1 := by omega
                            exact ih τ931 (te o) z933 z934 (Fr.tr (Fr.tr Fr.rf (Fr.mo kF (by decide) (by decide))) (Fr.mo h932.1 (by decide) (by decide))) dτ931 pτ931 (by omega) (by omega) (by omega) (fun ⟨f, hf⟩ => hac ⟨f + 1, Or.inr ⟨by omega, Or.inr (Or.inr (Or.inr (Or.inr (Or.inl ⟨by omega, by omega, (by rw [ek1, show z933.toInt.toNat = 0 by omega] at hf; exact hf)⟩))))⟩⟩) (by omega)
                          · refine s_iconst C dX10_conditionFault_234 (by decide) (fun z936 tz936 => ?_)
                            refine s_iload_n C dX10_conditionFault_235 rfl ?_
                            refine s_isub C dX10_conditionFault_236 (by omega) (fun z937 tz937 => ?_)
                            exact s_iret C X dX10_conditionFault_237 ⟨(Fr.tr (Fr.tr Fr.rf (Fr.mo kF (by decide) (by decide))) (Fr.mo h932.1 (by decide) (by decide))), by omega, by omega, fun q => by omega⟩
                      · refine s_iload_n C dX10_conditionFault_161 rfl ?_
                        refine s_bipush C dX10_conditionFault_162 (by decide) (fun z938 tz938 => ?_)
                        refine s_icmp_ne (tgt := 184) C dX10_conditionFault_164 (by decide) (fun q939 => ?_) (fun q939 => ?_)
                        · refine s_iload_n C dX10_conditionFault_184 rfl ?_
                          refine s_bipush C dX10_conditionFault_185 (by decide) (fun z940 tz940 => ?_)
                          refine s_icmp_ne (tgt := 228) C dX10_conditionFault_187 (by decide) (fun q941 => ?_) (fun q941 => ?_)
                          · refine s_iload_n C dX10_conditionFault_228 rfl ?_
                            exact s_iret C X dX10_conditionFault_229 ⟨(Fr.tr Fr.rf (Fr.mo kF (by decide) (by decide))), by omega, by omega, fun q => by omega⟩
                          · refine s_iload_n C dX10_conditionFault_190 rfl ?_
                            refine s_iconst C dX10_conditionFault_191 (by decide) (fun z942 tz942 => ?_)
                            refine s_icmp_le (tgt := 228) C dX10_conditionFault_192 (by decide) (fun q943 => ?_) (fun q943 => ?_)
                            · refine s_iload_n C dX10_conditionFault_228 rfl ?_
                              exact s_iret C X dX10_conditionFault_229 ⟨(Fr.tr Fr.rf (Fr.mo kF (by decide) (by decide))), by omega, by omega, fun q => by omega⟩
                            · refine s_aload_n C dX10_conditionFault_195 rfl ?_
                              refine s_callVI (st := []) C (c_X10_isOpen l ad τ o hd ho (by omega)) cv_X10_269 y71 rfl rfl rfl ⟨by decide, by decide⟩ (Nat.le_of_ble_eq_true rfl) dX10_conditionFault_196 ?_
                              intro r944 τ945 h946
                              obtain ⟨eh946, h946⟩ := h946; replace eh946 := eh946.symm; subst eh946
                              have mh946 := h946.2
                              refine s_if_eq (tgt := 228) C dX10_conditionFault_199 (by decide) (fun q947 => ?_) (fun q947 => ?_)
                              · refine s_iload_n C dX10_conditionFault_228 rfl ?_
                                exact s_iret C X dX10_conditionFault_229 ⟨(Fr.tr Fr.rf (Fr.mo kF (by decide) (by decide))), by omega, by omega, fun q => by omega⟩
                              · refine s_aload_n C dX10_conditionFault_202 rfl ?_
                                refine s_callVV (st := []) C (c_X10_testEnds l ad τ o hd ho (by omega)) cv_X10_266 y71 rfl rfl rfl ⟨by decide, by decide⟩ (Nat.le_of_ble_eq_true rfl) dX10_conditionFault_203 ?_
                                intro τ949 h950
                                have dτ949 : Int32.toInt (τ949.1 71 49) = (te o).length := h950.2
                                have pτ949 : Op (τ949.1 109) (te o) := by rw [h950.1.a 109 (by decide) (by decide)]; exact Op_te o ho
                                have qτ949 := te_len o
                                obtain ⟨r6, hr6⟩ := te_hd (mh946.mp (by omega))
                                have hl6 : 1 ≤ (te o).length := by rw [hr6]; simp
                                refine s_aload_n C dX10_conditionFault_206 rfl ?_
                                refine s_dup C dX10_conditionFault_207 rfl ?_
                                refine s_get (k := 49) (x := (τ949.1 71 49)) C y71 fw_X10_260 rfl rfl dX10_conditionFault_208 ?_
                                refine s_iconst C dX10_conditionFault_211 (by decide) (fun z951 tz951 => ?_)
                                refine s_isub C dX10_conditionFault_212 (by omega) (fun z952 tz952 => ?_)
                                refine s_put (k := 49) C y71 fw_X10_260 fp_9_49 rfl dX10_conditionFault_213 ?_
                                refine s_aload_n C dX10_conditionFault_216 rfl ?_
                                refine s_callVV (st := []) C (c_X10_testEnds l ad (sV τ949 71 49 z952) (te o).tail (by show Int32.toInt z952 = _; rw [List.length_tail]; omega) (Op_tail _ pτ949) (by rw [List.length_tail]; omega)) cv_X10_266 y71 rfl rfl rfl ⟨by decide, by decide⟩ (Nat.le_of_ble_eq_true rfl) dX10_conditionFault_217 ?_
                                intro τ954 h955
                                have dτ954 : Int32.toInt (τ954.1 71 49) = (te (te o).tail).length := h955.2
                                have pτ954 : Op (τ954.1 109) (te (te o).tail) := by rw [h955.1.a 109 (by decide) (by decide)]; exact Op_te _ (Op_tail _ pτ949)
                                have qτ954 := te_len (te o).tail
                                have qqτ954 : (te o).tail.length = (te o).length - 1 := List.length_tail
                                skip
                                refine s_iconst C dX10_conditionFault_220 (by decide) (fun z956 tz956 => ?_)
                                refine s_istore_n C dX10_conditionFault_221 (by decide) (Nat.le_of_ble_eq_true rfl) rfl ?_
                                show WP E ad 222 [some (.ref (ad 71)), some (.int z956), some (.int z), some (.int (τ.1 86 z.toNatClampNeg))] [] τ954
                                refine s_iinc C dX10_conditionFault_222 rfl (by decide) rfl (by decide) (by omega) (fun z957 tz957 => ?_)
                                show WP E ad 225 [some (.ref (ad 71)), some (.int z956), some (.int z957), some (.int (τ.1 86 z.toNatClampNeg))] [] τ954
                                refine s_goto (tgt := 230) C dX10_conditionFault_225 (by decide) ?_
                                refine s_iload_n C dX10_conditionFault_230 rfl ?_
                                refine s_if_ge (tgt := 238) C dX10_conditionFault_231 (by decide) (fun q958 => ?_) (fun q958 => ?_)
                                · refine s_goto (tgt := 9) C dX10_conditionFault_238 (by decide) ?_
                                  refine wp_le (lv' := [some (.ref (ad 71)), some (.int z956), some (.int z957), none]) ⟨rfl, ⟨rfl, ⟨rfl, trivial⟩⟩⟩ ?_
                                  have ek1 : z957.toInt.toNat = z.toInt.toNat + 1 := by omega
                                  exact ih τ954 (te (te o).tail) z956 z957 (Fr.tr (Fr.sV (Fr.tr (Fr.tr Fr.rf (Fr.mo kF (by decide) (by decide))) (Fr.mo h950.1 (by decide) (by decide))) (Or.inr (by decide))) (Fr.mo h955.1 (by decide) (by decide))) dτ954 pτ954 (by omega) (by omega) (by omega) (fun ⟨f, hf⟩ => hac ⟨f + 1, Or.inr ⟨by omega, Or.inr (Or.inr (Or.inr (Or.inr (Or.inr ⟨by omega, by omega, mh946.mp (by omega), (by rw [ek1, show z956.toInt.toNat = 3 by omega] at hf; exact hf)⟩))))⟩⟩) (by omega)
                                · refine s_iconst C dX10_conditionFault_234 (by decide) (fun z959 tz959 => ?_)
                                  refine s_iload_n C dX10_conditionFault_235 rfl ?_
                                  refine s_isub C dX10_conditionFault_236 (by omega) (fun z960 tz960 => ?_)
                                  exact s_iret C X dX10_conditionFault_237 ⟨(Fr.tr (Fr.sV (Fr.tr (Fr.tr Fr.rf (Fr.mo kF (by decide) (by decide))) (Fr.mo h950.1 (by decide) (by decide))) (Or.inr (by decide))) (Fr.mo h955.1 (by decide) (by decide))), by omega, by omega, fun q => by omega⟩
                        · refine s_iload_n C dX10_conditionFault_167 rfl ?_
                          refine s_iconst C dX10_conditionFault_168 (by decide) (fun z961 tz961 => ?_)
                          refine s_icmp_le (tgt := 184) C dX10_conditionFault_169 (by decide) (fun q962 => ?_) (fun q962 => ?_)
                          · refine s_iload_n C dX10_conditionFault_184 rfl ?_
                            refine s_bipush C dX10_conditionFault_185 (by decide) (fun z963 tz963 => ?_)
                            refine s_icmp_ne (tgt := 228) C dX10_conditionFault_187 (by decide) (fun q964 => ?_) (fun q964 => ?_)
                            · refine s_iload_n C dX10_conditionFault_228 rfl ?_
                              exact s_iret C X dX10_conditionFault_229 ⟨(Fr.tr Fr.rf (Fr.mo kF (by decide) (by decide))), by omega, by omega, fun q => by omega⟩
                            · refine s_iload_n C dX10_conditionFault_190 rfl ?_
                              refine s_iconst C dX10_conditionFault_191 (by decide) (fun z965 tz965 => ?_)
                              refine s_icmp_le (tgt := 228) C dX10_conditionFault_192 (by decide) (fun q966 => ?_) (fun q966 => ?_)
                              · refine s_iload_n C dX10_conditionFault_228 rfl ?_
                                exact s_iret C X dX10_conditionFault_229 ⟨(Fr.tr Fr.rf (Fr.mo kF (by decide) (by decide))), by omega, by omega, fun q => by omega⟩
                              · refine s_aload_n C dX10_conditionFault_195 rfl ?_
                                refine s_callVI (st := []) C (c_X10_isOpen l ad τ o hd ho (by omega)) cv_X10_269 y71 rfl rfl rfl ⟨by decide, by decide⟩ (Nat.le_of_ble_eq_true rfl) dX10_conditionFault_196 ?_
                                intro r967 τ968 h969
                                obtain ⟨eh969, h969⟩ := h969; replace eh969 := eh969.symm; subst eh969
                                have mh969 := h969.2
                                refine s_if_eq (tgt := 228) C dX10_conditionFault_199 (by decide) (fun q970 => ?_) (fun q970 => ?_)
                                · refine s_iload_n C dX10_conditionFault_228 rfl ?_
                                  exact s_iret C X dX10_conditionFault_229 ⟨(Fr.tr Fr.rf (Fr.mo kF (by decide) (by decide))), by omega, by omega, fun q => by omega⟩
                                · refine s_aload_n C dX10_conditionFault_202 rfl ?_
                                  refine s_callVV (st := []) C (c_X10_testEnds l ad τ o hd ho (by omega)) cv_X10_266 y71 rfl rfl rfl ⟨by decide, by decide⟩ (Nat.le_of_ble_eq_true rfl) dX10_conditionFault_203 ?_
                                  intro τ972 h973
                                  have dτ972 : Int32.toInt (τ972.1 71 49) = (te o).length := h973.2
                                  have pτ972 : Op (τ972.1 109) (te o) := by rw [h973.1.a 109 (by decide) (by decide)]; exact Op_te o ho
                                  have qτ972 := te_len o
                                  obtain ⟨r6, hr6⟩ := te_hd (mh969.mp (by omega))
                                  have hl6 : 1 ≤ (te o).length := by rw [hr6]; simp
                                  refine s_aload_n C dX10_conditionFault_206 rfl ?_
                                  refine s_dup C dX10_conditionFault_207 rfl ?_
                                  refine s_get (k := 49) (x := (τ972.1 71 49)) C y71 fw_X10_260 rfl rfl dX10_conditionFault_208 ?_
                                  refine s_iconst C dX10_conditionFault_211 (by decide) (fun z974 tz974 => ?_)
                                  refine s_isub C dX10_conditionFault_212 (by omega) (fun z975 tz975 => ?_)
                                  refine s_put (k := 49) C y71 fw_X10_260 fp_9_49 rfl dX10_conditionFault_213 ?_
                                  refine s_aload_n C dX10_conditionFault_216 rfl ?_
                                  refine s_callVV (st := []) C (c_X10_testEnds l ad (sV τ972 71 49 z975) (te o).tail (by show Int32.toInt z975 = _; rw [List.length_tail]; omega) (Op_tail _ pτ972) (by rw [List.length_tail]; omega)) cv_X10_266 y71 rfl rfl rfl ⟨by decide, by decide⟩ (Nat.le_of_ble_eq_true rfl) dX10_conditionFault_217 ?_
                                  intro τ977 h978
                                  have dτ977 : Int32.toInt (τ977.1 71 49) = (te (te o).tail).length := h978.2
                                  have pτ977 : Op (τ977.1 109) (te (te o).tail) := by rw [h978.1.a 109 (by decide) (by decide)]; exact Op_te _ (Op_tail _ pτ972)
                                  have qτ977 := te_len (te o).tail
                                  have qqτ977 : (te o).tail.length = (te o).length - 1 := List.length_tail
                                  skip
                                  refine s_iconst C dX10_conditionFault_220 (by decide) (fun z979 tz979 => ?_)
                                  refine s_istore_n C dX10_conditionFault_221 (by decide) (Nat.le_of_ble_eq_true rfl) rfl ?_
                                  show WP E ad 222 [some (.ref (ad 71)), some (.int z979), some (.int z), some (.int (τ.1 86 z.toNatClampNeg))] [] τ977
                                  refine s_iinc C dX10_conditionFault_222 rfl (by decide) rfl (by decide) (by omega) (fun z980 tz980 => ?_)
                                  show WP E ad 225 [some (.ref (ad 71)), some (.int z979), some (.int z980), some (.int (τ.1 86 z.toNatClampNeg))] [] τ977
                                  refine s_goto (tgt := 230) C dX10_conditionFault_225 (by decide) ?_
                                  refine s_iload_n C dX10_conditionFault_230 rfl ?_
                                  refine s_if_ge (tgt := 238) C dX10_conditionFault_231 (by decide) (fun q981 => ?_) (fun q981 => ?_)
                                  · refine s_goto (tgt := 9) C dX10_conditionFault_238 (by decide) ?_
                                    refine wp_le (lv' := [some (.ref (ad 71)), some (.int z979), some (.int z980), none]) ⟨rfl, ⟨rfl, ⟨rfl, trivial⟩⟩⟩ ?_
                                    have ek1 : z980.toInt.toNat = z.toInt.toNat + 1 := by omega
                                    exact ih τ977 (te (te o).tail) z979 z980 (Fr.tr (Fr.sV (Fr.tr (Fr.tr Fr.rf (Fr.mo kF (by decide) (by decide))) (Fr.mo h973.1 (by decide) (by decide))) (Or.inr (by decide))) (Fr.mo h978.1 (by decide) (by decide))) dτ977 pτ977 (by omega) (by omega) (by omega) (fun ⟨f, hf⟩ => hac ⟨f + 1, Or.inr ⟨by omega, Or.inr (Or.inr (Or.inr (Or.inr (Or.inr ⟨by omega, by omega, mh969.mp (by omega), (by rw [ek1, show z979.toInt.toNat = 3 by omega] at hf; exact hf)⟩))))⟩⟩) (by omega)
                                  · refine s_iconst C dX10_conditionFault_234 (by decide) (fun z982 tz982 => ?_)
                                    refine s_iload_n C dX10_conditionFault_235 rfl ?_
                                    refine s_isub C dX10_conditionFault_236 (by omega) (fun z983 tz983 => ?_)
                                    exact s_iret C X dX10_conditionFault_237 ⟨(Fr.tr (Fr.sV (Fr.tr (Fr.tr Fr.rf (Fr.mo kF (by decide) (by decide))) (Fr.mo h973.1 (by decide) (by decide))) (Or.inr (by decide))) (Fr.mo h978.1 (by decide) (by decide))), by omega, by omega, fun q => by omega⟩
                          · refine s_aload_n C dX10_conditionFault_172 rfl ?_
                            refine s_callVV (st := []) C (c_X10_testEnds l ad τ o hd ho (by omega)) cv_X10_266 y71 rfl rfl rfl ⟨by decide, by decide⟩ (Nat.le_of_ble_eq_true rfl) dX10_conditionFault_173 ?_
                            intro τ985 h986
                            have dτ985 : Int32.toInt (τ985.1 71 49) = (te o).length := h986.2
                            have pτ985 : Op (τ985.1 109) (te o) := by rw [h986.1.a 109 (by decide) (by decide)]; exact Op_te o ho
                            have qτ985 := te_len o
                            skip
                            refine s_iconst C dX10_conditionFault_176 (by decide) (fun z987 tz987 => ?_)
                            refine s_istore_n C dX10_conditionFault_177 (by decide) (Nat.le_of_ble_eq_true rfl) rfl ?_
                            show WP E ad 178 [some (.ref (ad 71)), some (.int z987), some (.int z), some (.int (τ.1 86 z.toNatClampNeg))] [] τ985
                            refine s_iinc C dX10_conditionFault_178 rfl (by decide) rfl (by decide) (by omega) (fun z988 tz988 => ?_)
                            show WP E ad 181 [some (.ref (ad 71)), some (.int z987), some (.int z988), some (.int (τ.1 86 z.toNatClampNeg))] [] τ985
                            refine s_goto (tgt := 230) C dX10_conditionFault_181 (by decide) ?_
                            refine s_iload_n C dX10_conditionFault_230 rfl ?_
                            refine s_if_ge (tgt := 238) C dX10_conditionFault_231 (by decide) (fun q989 => ?_) (fun q989 => ?_)
                            · refine s_goto (tgt := 9) C dX10_conditionFault_238 (by decide) ?_
                              refine wp_le (lv' := [some (.ref (ad 71)), some (.int z987), some (.int z988), none]) ⟨rfl, ⟨rfl, ⟨rfl, trivial⟩⟩⟩ ?_
                              have ek1 : z988.toInt.toNat = z.toInt.toNat + 1 := by omega
                              exact ih τ985 (te o) z987 z988 (Fr.tr (Fr.tr Fr.rf (Fr.mo kF (by decide) (by decide))) (Fr.mo h986.1 (by decide) (by decide))) dτ985 pτ985 (by omega) (by omega) (by omega) (fun ⟨f, hf⟩ => hac ⟨f + 1, Or.inr ⟨by omega, Or.inr (Or.inr (Or.inr (Or.inr (Or.inl ⟨by omega, by omega, (by rw [ek1, show z987.toInt.toNat = 0 by omega] at hf; exact hf)⟩))))⟩⟩) (by omega)
                            · refine s_iconst C dX10_conditionFault_234 (by decide) (fun z990 tz990 => ?_)
                              refine s_iload_n C dX10_conditionFault_235 rfl ?_
                              refine s_isub C dX10_conditionFault_236 (by omega) (fun z991 tz991 => ?_)
                              exact s_iret C X dX10_conditionFault_237 ⟨(Fr.tr (Fr.tr Fr.rf (Fr.mo kF (by decide) (by decide))) (Fr.mo h986.1 (by decide) (by decide))), by omega, by omega, fun q => by omega⟩
                    · refine s_aload_n C dX10_conditionFault_142 rfl ?_
                      refine s_iload_n C dX10_conditionFault_143 rfl ?_
                      refine s_iconst C dX10_conditionFault_144 (by decide) (fun z992 tz992 => ?_)
                      refine s_iadd C dX10_conditionFault_145 (by omega) (fun z993 tz993 => ?_)
                      refine s_callVI (st := []) C (c_X10_behindUnit l ad τ z993 (by omega) (by omega) (by omega)) cv_X10_263 y71 rfl rfl rfl ⟨by decide, by decide⟩ (Nat.le_of_ble_eq_true rfl) dX10_conditionFault_146 ?_
                      intro r994 τ995 h996
                      obtain ⟨eh996, h996⟩ := h996; replace eh996 := eh996.symm; subst eh996
                      have uh996 := h996.2.2
                      rw [f0, f17, e86] at uh996
                      have vh996 : 0 ≤ Int32.toInt r994 → Int32.toInt r994 ≤ Int32.toInt (σ.1 71 17) := fun q => by have := un_le (uh996 q).2; omega
                      skip
                      refine s_istore_n C dX10_conditionFault_149 (by decide) (Nat.le_of_ble_eq_true rfl) rfl ?_
                      show WP E ad 150 [some (.ref (ad 71)), some (.int y), some (.int r994), some (.int (τ.1 86 z.toNatClampNeg))] [] τ
                      refine s_iconst C dX10_conditionFault_150 (by decide) (fun z997 tz997 => ?_)
                      refine s_istore_n C dX10_conditionFault_151 (by decide) (Nat.le_of_ble_eq_true rfl) rfl ?_
                      show WP E ad 152 [some (.ref (ad 71)), some (.int z997), some (.int r994), some (.int (τ.1 86 z.toNatClampNeg))] [] τ
                      refine s_goto (tgt := 230) C dX10_conditionFault_152 (by decide) ?_
                      refine s_iload_n C dX10_conditionFault_230 rfl ?_
                      refine s_if_ge (tgt := 238) C dX10_conditionFault_231 (by decide) (fun q998 => ?_) (fun q998 => ?_)
                      · refine s_goto (tgt := 9) C dX10_conditionFault_238 (by decide) ?_
                        refine wp_le (lv' := [some (.ref (ad 71)), some (.int z997), some (.int r994), none]) ⟨rfl, ⟨rfl, ⟨rfl, trivial⟩⟩⟩ ?_
                        have ez1 : z993.toInt.toNat = z.toInt.toNat + 1 := by omega
                        rw [ez1] at uh996
                        exact ih τ o z997 r994 (Fr.tr Fr.rf (Fr.mo kF (by decide) (by decide))) hd ho (by omega) (by omega) (by omega) (fun ⟨f, hf⟩ => hac ⟨f + 1, Or.inr ⟨by omega, Or.inr (Or.inr (Or.inr (Or.inl ⟨by omega, by omega, _, (uh996 (by omega)).2, (by rw [show z997.toInt.toNat = 2 by omega] at hf; exact hf)⟩)))⟩⟩) (by omega)
                      · refine s_iconst C dX10_conditionFault_234 (by decide) (fun z999 tz999 => ?_)
                        refine s_iload_n C dX10_conditionFault_235 rfl ?_
                        refine s_isub C dX10_conditionFault_236 (by omega) (fun z1000 tz1000 => ?_)
                        exact s_iret C X dX10_conditionFault_237 ⟨(Fr.tr Fr.rf (Fr.mo kF (by decide) (by decide))), by omega, by omega, fun q => by omega⟩
                  · refine s_iload_n C dX10_conditionFault_131 rfl ?_
                    refine s_bipush C dX10_conditionFault_132 (by decide) (fun z1001 tz1001 => ?_)
                    refine s_icmp_ne (tgt := 155) C dX10_conditionFault_134 (by decide) (fun q1002 => ?_) (fun q1002 => ?_)
                    · refine s_iload_n C dX10_conditionFault_155 rfl ?_
                      refine s_bipush C dX10_conditionFault_156 (by decide) (fun z1003 tz1003 => ?_)
                      refine s_icmp_eq (tgt := 167) C dX10_conditionFault_158 (by decide) (fun q1004 => ?_) (fun q1004 => ?_)
                      · refine s_iload_n C dX10_conditionFault_167 rfl ?_
                        refine s_iconst C dX10_conditionFault_168 (by decide) (fun z1005 tz1005 => ?_)
                        refine s_icmp_le (tgt := 184) C dX10_conditionFault_169 (by decide) (fun q1006 => ?_) (fun q1006 => ?_)
                        · refine s_iload_n C dX10_conditionFault_184 rfl ?_
                          refine s_bipush C dX10_conditionFault_185 (by decide) (fun z1007 tz1007 => ?_)
                          refine s_icmp_ne (tgt := 228) C dX10_conditionFault_187 (by decide) (fun q1008 => ?_) (fun q1008 => ?_)
                          · refine s_iload_n C dX10_conditionFault_228 rfl ?_
                            exact s_iret C X dX10_conditionFault_229 ⟨(Fr.tr Fr.rf (Fr.mo kF (by decide) (by decide))), by omega, by omega, fun q => by omega⟩
                          · refine s_iload_n C dX10_conditionFault_190 rfl ?_
                            refine s_iconst C dX10_conditionFault_191 (by decide) (fun z1009 tz1009 => ?_)
                            refine s_icmp_le (tgt := 228) C dX10_conditionFault_192 (by decide) (fun q1010 => ?_) (fun q1010 => ?_)
                            · refine s_iload_n C dX10_conditionFault_228 rfl ?_
                              exact s_iret C X dX10_conditionFault_229 ⟨(Fr.tr Fr.rf (Fr.mo kF (by decide) (by decide))), by omega, by omega, fun q => by omega⟩
                            · refine s_aload_n C dX10_conditionFault_195 rfl ?_
                              refine s_callVI (st := []) C (c_X10_isOpen l ad τ o hd ho (by omega)) cv_X10_269 y71 rfl rfl rfl ⟨by decide, by decide⟩ (Nat.le_of_ble_eq_true rfl) dX10_conditionFault_196 ?_
                              intro r1011 τ1012 h1013
                              obtain ⟨eh1013, h1013⟩ := h1013; replace eh1013 := eh1013.symm; subst eh1013
                              have mh1013 := h1013.2
                              refine s_if_eq (tgt := 228) C dX10_conditionFault_199 (by decide) (fun q1014 => ?_) (fun q1014 => ?_)
                              · refine s_iload_n C dX10_conditionFault_228 rfl ?_
                                exact s_iret C X dX10_conditionFault_229 ⟨(Fr.tr Fr.rf (Fr.mo kF (by decide) (by decide))), by omega, by omega, fun q => by omega⟩
                              · refine s_aload_n C dX10_conditionFault_202 rfl ?_
                                refine s_callVV (st := []) C (c_X10_testEnds l ad τ o hd ho (by omega)) cv_X10_266 y71 rfl rfl rfl ⟨by decide, by decide⟩ (Nat.le_of_ble_eq_true rfl) dX10_conditionFault_203 ?_
                                intro τ1016 h1017
                                have dτ1016 : Int32.toInt (τ1016.1 71 49) = (te o).length := h1017.2
                                have pτ1016 : Op (τ1016.1 109) (te o) := by rw [h1017.1.a 109 (by decide) (by decide)]; exact Op_te o ho
                                have qτ1016 := te_len o
                                obtain ⟨r6, hr6⟩ := te_hd (mh1013.mp (by omega))
                                have hl6 : 1 ≤ (te o).length := by rw [hr6]; simp
                                refine s_aload_n C dX10_conditionFault_206 rfl ?_
                                refine s_dup C dX10_conditionFault_207 rfl ?_
                                refine s_get (k := 49) (x := (τ1016.1 71 49)) C y71 fw_X10_260 rfl rfl dX10_conditionFault_208 ?_
                                refine s_iconst C dX10_conditionFault_211 (by decide) (fun z1018 tz1018 => ?_)
                                refine s_isub C dX10_conditionFault_212 (by omega) (fun z1019 tz1019 => ?_)
                                refine s_put (k := 49) C y71 fw_X10_260 fp_9_49 rfl dX10_conditionFault_213 ?_
                                refine s_aload_n C dX10_conditionFault_216 rfl ?_
                                refine s_callVV (st := []) C (c_X10_testEnds l ad (sV τ1016 71 49 z1019) (te o).tail (by show Int32.toInt z1019 = _; rw [List.length_tail]; omega) (Op_tail _ pτ1016) (by rw [List.length_tail]; omega)) cv_X10_266 y71 rfl rfl rfl ⟨by decide, by decide⟩ (Nat.le_of_ble_eq_true rfl) dX10_conditionFault_217 ?_
                                intro τ1021 h1022
                                have dτ1021 : Int32.toInt (τ1021.1 71 49) = (te (te o).tail).length := h1022.2
                                have pτ1021 : Op (τ1021.1 109) (te (te o).tail) := by rw [h1022.1.a 109 (by decide) (by decide)]; exact Op_te _ (Op_tail _ pτ1016)
                                have qτ1021 := te_len (te o).tail
                                have qqτ1021 : (te o).tail.length = (te o).length - 1 := List.length_tail
                                skip
                                refine s_iconst C dX10_conditionFault_220 (by decide) (fun z1023 tz1023 => ?_)
                                refine s_istore_n C dX10_conditionFault_221 (by decide) (Nat.le_of_ble_eq_true rfl) rfl ?_
                                show WP E ad 222 [some (.ref (ad 71)), some (.int z1023), some (.int z), some (.int (τ.1 86 z.toNatClampNeg))] [] τ1021
                                refine s_iinc C dX10_conditionFault_222 rfl (by decide) rfl (by decide) (by omega) (fun z1024 tz1024 => ?_)
                                show WP E ad 225 [some (.ref (ad 71)), some (.int z1023), some (.int z1024), some (.int (τ.1 86 z.toNatClampNeg))] [] τ1021
                                refine s_goto (tgt := 230) C dX10_conditionFault_225 (by decide) ?_
                                refine s_iload_n C dX10_conditionFault_230 rfl ?_
                                refine s_if_ge (tgt := 238) C dX10_conditionFault_231 (by decide) (fun q1025 => ?_) (fun q1025 => ?_)
                                · refine s_goto (tgt := 9) C dX10_conditionFault_238 (by decide) ?_
                                  refine wp_le (lv' := [some (.ref (ad 71)), some (.int z1023), some (.int z1024), none]) ⟨rfl, ⟨rfl, ⟨rfl, trivial⟩⟩⟩ ?_
                                  have ek1 : z1024.toInt.toNat = z.toInt.toNat + 1 := by omega
                                  exact ih τ1021 (te (te o).tail) z1023 z1024 (Fr.tr (Fr.sV (Fr.tr (Fr.tr Fr.rf (Fr.mo kF (by decide) (by decide))) (Fr.mo h1017.1 (by decide) (by decide))) (Or.inr (by decide))) (Fr.mo h1022.1 (by decide) (by decide))) dτ1021 pτ1021 (by omega) (by omega) (by omega) (fun ⟨f, hf⟩ => hac ⟨f + 1, Or.inr ⟨by omega, Or.inr (Or.inr (Or.inr (Or.inr (Or.inr ⟨by omega, by omega, mh1013.mp (by omega), (by rw [ek1, show z1023.toInt.toNat = 3 by omega] at hf; exact hf)⟩))))⟩⟩) (by omega)
                                · refine s_iconst C dX10_conditionFault_234 (by decide) (fun z1026 tz1026 => ?_)
                                  refine s_iload_n C dX10_conditionFault_235 rfl ?_
                                  refine s_isub C dX10_conditionFault_236 (by omega) (fun z1027 tz1027 => ?_)
                                  exact s_iret C X dX10_conditionFault_237 ⟨(Fr.tr (Fr.sV (Fr.tr (Fr.tr Fr.rf (Fr.mo kF (by decide) (by decide))) (Fr.mo h1017.1 (by decide) (by decide))) (Or.inr (by decide))) (Fr.mo h1022.1 (by decide) (by decide))), by omega, by omega, fun q => by omega⟩
                        · refine s_aload_n C dX10_conditionFault_172 rfl ?_
                          refine s_callVV (st := []) C (c_X10_testEnds l ad τ o hd ho (by omega)) cv_X10_266 y71 rfl rfl rfl ⟨by decide, by decide⟩ (Nat.le_of_ble_eq_true rfl) dX10_conditionFault_173 ?_
                          intro τ1029 h1030
                          have dτ1029 : Int32.toInt (τ1029.1 71 49) = (te o).length := h1030.2
                          have pτ1029 : Op (τ1029.1 109) (te o) := by rw [h1030.1.a 109 (by decide) (by decide)]; exact Op_te o ho
                          have qτ1029 := te_len o
                          skip
                          refine s_iconst C dX10_conditionFault_176 (by decide) (fun z1031 tz1031 => ?_)
                          refine s_istore_n C dX10_conditionFault_177 (by decide) (Nat.le_of_ble_eq_true rfl) rfl ?_
                          show WP E ad 178 [some (.ref (ad 71)), some (.int z1031), some (.int z), some (.int (τ.1 86 z.toNatClampNeg))] [] τ1029
                          refine s_iinc C dX10_conditionFault_178 rfl (by decide) rfl (by decide) (by omega) (fun z1032 tz1032 => ?_)
                          show WP E ad 181 [some (.ref (ad 71)), some (.int z1031), some (.int z1032), some (.int (τ.1 86 z.toNatClampNeg))] [] τ1029
                          refine s_goto (tgt := 230) C dX10_conditionFault_181 (by decide) ?_
                          refine s_iload_n C dX10_conditionFault_230 rfl ?_
                          refine s_if_ge (tgt := 238) C dX10_conditionFault_231 (by decide) (fun q1033 => ?_) (fun q1033 => ?_)
                          · refine s_goto (tgt := 9) C dX10_conditionFault_238 (by decide) ?_
                            refine wp_le (lv' := [some (.ref (ad 71)), some (.int z1031), some (.int z1032), none]) ⟨rfl, ⟨rfl, ⟨rfl, trivial⟩⟩⟩ ?_
                            have ek1 : z1032.toInt.toNat = z.toInt.toNat + 1 := by omega
                            exact ih τ1029 (te o) z1031 z1032 (Fr.tr (Fr.tr Fr.rf (Fr.mo kF (by decide) (by decide))) (Fr.mo h1030.1 (by decide) (by decide))) dτ1029 pτ1029 (by omega) (by omega) (by omega) (fun ⟨f, hf⟩ => hac ⟨f + 1, Or.inr ⟨by omega, Or.inr (Or.inr (Or.inr (Or.inr (Or.inl ⟨by omega, by omega, (by rw [ek1, show z1031.toInt.toNat = 0 by omega] at hf; exact hf)⟩))))⟩⟩) (by omega)
                          · refine s_iconst C dX10_conditionFault_234 (by decide) (fun z1034 tz1034 => ?_)
                            refine s_iload_n C dX10_conditionFault_235 rfl ?_
                            refine s_isub C dX10_conditionFault_236 (by omega) (fun z1035 tz1035 => ?_)
                            exact s_iret C X dX10_conditionFault_237 ⟨(Fr.tr (Fr.tr Fr.rf (Fr.mo kF (by decide) (by decide))) (Fr.mo h1030.1 (by decide) (by decide))), by omega, by omega, fun q => by omega⟩
                      · refine s_iload_n C dX10_conditionFault_161 rfl ?_
                        refine s_bipush C dX10_conditionFault_162 (by decide) (fun z1036 tz1036 => ?_)
                        refine s_icmp_ne (tgt := 184) C dX10_conditionFault_164 (by decide) (fun q1037 => ?_) (fun q1037 => ?_)
                        · refine s_iload_n C dX10_conditionFault_184 rfl ?_
                          refine s_bipush C dX10_conditionFault_185 (by decide) (fun z1038 tz1038 => ?_)
                          refine s_icmp_ne (tgt := 228) C dX10_conditionFault_187 (by decide) (fun q1039 => ?_) (fun q1039 => ?_)
                          · refine s_iload_n C dX10_conditionFault_228 rfl ?_
                            exact s_iret C X dX10_conditionFault_229 ⟨(Fr.tr Fr.rf (Fr.mo kF (by decide) (by decide))), by omega, by omega, fun q => by omega⟩
                          · refine s_iload_n C dX10_conditionFault_190 rfl ?_
                            refine s_iconst C dX10_conditionFault_191 (by decide) (fun z1040 tz1040 => ?_)
                            refine s_icmp_le (tgt := 228) C dX10_conditionFault_192 (by decide) (fun q1041 => ?_) (fun q1041 => ?_)
                            · refine s_iload_n C dX10_conditionFault_228 rfl ?_
                              exact s_iret C X dX10_conditionFault_229 ⟨(Fr.tr Fr.rf (Fr.mo kF (by decide) (by decide))), by omega, by omega, fun q => by omega⟩
                            · refine s_aload_n C dX10_conditionFault_195 rfl ?_
                              refine s_callVI (st := []) C (c_X10_isOpen l ad τ o hd ho (by omega)) cv_X10_269 y71 rfl rfl rfl ⟨by decide, by decide⟩ (Nat.le_of_ble_eq_true rfl) dX10_conditionFault_196 ?_
                              intro r1042 τ1043 h1044
                              obtain ⟨eh1044, h1044⟩ := h1044; replace eh1044 := eh1044.symm; subst eh1044
                              have mh1044 := h1044.2
                              refine s_if_eq (tgt := 228) C dX10_conditionFault_199 (by decide) (fun q1045 => ?_) (fun q1045 => ?_)
                              · refine s_iload_n C dX10_conditionFault_228 rfl ?_
                                exact s_iret C X dX10_conditionFault_229 ⟨(Fr.tr Fr.rf (Fr.mo kF (by decide) (by decide))), by omega, by omega, fun q => by omega⟩
                              · refine s_aload_n C dX10_conditionFault_202 rfl ?_
                                refine s_callVV (st := []) C (c_X10_testEnds l ad τ o hd ho (by omega)) cv_X10_266 y71 rfl rfl rfl ⟨by decide, by decide⟩ (Nat.le_of_ble_eq_true rfl) dX10_conditionFault_203 ?_
                                intro τ1047 h1048
                                have dτ1047 : Int32.toInt (τ1047.1 71 49) = (te o).length := h1048.2
                                have pτ1047 : Op (τ1047.1 109) (te o) := by rw [h1048.1.a 109 (by decide) (by decide)]; exact Op_te o ho
                                have qτ1047 := te_len o
                                obtain ⟨r6, hr6⟩ := te_hd (mh1044.mp (by omega))
                                have hl6 : 1 ≤ (te o).length := by rw [hr6]; simp
                                refine s_aload_n C dX10_conditionFault_206 rfl ?_
                                refine s_dup C dX10_conditionFault_207 rfl ?_
                                refine s_get (k := 49) (x := (τ1047.1 71 49)) C y71 fw_X10_260 rfl rfl dX10_conditionFault_208 ?_
                                refine s_iconst C dX10_conditionFault_211 (by decide) (fun z1049 tz1049 => ?_)
                                refine s_isub C dX10_conditionFault_212 (by omega) (fun z1050 tz1050 => ?_)
                                refine s_put (k := 49) C y71 fw_X10_260 fp_9_49 rfl dX10_conditionFault_213 ?_
                                refine s_aload_n C dX10_conditionFault_216 rfl ?_
                                refine s_callVV (st := []) C (c_X10_testEnds l ad (sV τ1047 71 49 z1050) (te o).tail (by show Int32.toInt z1050 = _; rw [List.length_tail]; omega) (Op_tail _ pτ1047) (by rw [List.length_tail]; omega)) cv_X10_266 y71 rfl rfl rfl ⟨by decide, by decide⟩ (Nat.le_of_ble_eq_true rfl) dX10_conditionFault_217 ?_
                                intro τ1052 h1053
                                have dτ1052 : Int32.toInt (τ1052.1 71 49) = (te (te o).tail).length := h1053.2
                                have pτ1052 : Op (τ1052.1 109) (te (te o).tail) := by rw [h1053.1.a 109 (by decide) (by decide)]; exact Op_te _ (Op_tail _ pτ1047)
                                have qτ1052 := te_len (te o).tail
                                have qqτ1052 : (te o).tail.length = (te o).length - 1 := List.length_tail
                                skip
                                refine s_iconst C dX10_conditionFault_220 (by decide) (fun z1054 tz1054 => ?_)
                                refine s_istore_n C dX10_conditionFault_221 (by decide) (Nat.le_of_ble_eq_true rfl) rfl ?_
                                show WP E ad 222 [some (.ref (ad 71)), some (.int z1054), some (.int z), some (.int (τ.1 86 z.toNatClampNeg))] [] τ1052
                                refine s_iinc C dX10_conditionFault_222 rfl (by decide) rfl (by decide) (by omega) (fun z1055 tz1055 => ?_)
                                show WP E ad 225 [some (.ref (ad 71)), some (.int z1054), some (.int z1055), some (.int (τ.1 86 z.toNatClampNeg))] [] τ1052
                                refine s_goto (tgt := 230) C dX10_conditionFault_225 (by decide) ?_
                                refine s_iload_n C dX10_conditionFault_230 rfl ?_
                                refine s_if_ge (tgt := 238) C dX10_conditionFault_231 (by decide) (fun q1056 => ?_) (fun q1056 => ?_)
                                · refine s_goto (tgt := 9) C dX10_conditionFault_238 (by decide) ?_
                                  refine wp_le (lv' := [some (.ref (ad 71)), some (.int z1054), some (.int z1055), none]) ⟨rfl, ⟨rfl, ⟨rfl, trivial⟩⟩⟩ ?_
                                  have ek1 : z1055.toInt.toNat = z.toInt.toNat + 1 := by omega
                                  exact ih τ1052 (te (te o).tail) z1054 z1055 (Fr.tr (Fr.sV (Fr.tr (Fr.tr Fr.rf (Fr.mo kF (by decide) (by decide))) (Fr.mo h1048.1 (by decide) (by decide))) (Or.inr (by decide))) (Fr.mo h1053.1 (by decide) (by decide))) dτ1052 pτ1052 (by omega) (by omega) (by omega) (fun ⟨f, hf⟩ => hac ⟨f + 1, Or.inr ⟨by omega, Or.inr (Or.inr (Or.inr (Or.inr (Or.inr ⟨by omega, by omega, mh1044.mp (by omega), (by rw [ek1, show z1054.toInt.toNat = 3 by omega] at hf; exact hf)⟩))))⟩⟩) (by omega)
                                · refine s_iconst C dX10_conditionFault_234 (by decide) (fun z1057 tz1057 => ?_)
                                  refine s_iload_n C dX10_conditionFault_235 rfl ?_
                                  refine s_isub C dX10_conditionFault_236 (by omega) (fun z1058 tz1058 => ?_)
                                  exact s_iret C X dX10_conditionFault_237 ⟨(Fr.tr (Fr.sV (Fr.tr (Fr.tr Fr.rf (Fr.mo kF (by decide) (by decide))) (Fr.mo h1048.1 (by decide) (by decide))) (Or.inr (by decide))) (Fr.mo h1053.1 (by decide) (by decide))), by omega, by omega, fun q => by omega⟩
                        · refine s_iload_n C dX10_conditionFault_167 rfl ?_
                          refine s_iconst C dX10_conditionFault_168 (by decide) (fun z1059 tz1059 => ?_)
                          refine s_icmp_le (tgt := 184) C dX10_conditionFault_169 (by decide) (fun q1060 => ?_) (fun q1060 => ?_)
                          · refine s_iload_n C dX10_conditionFault_184 rfl ?_
                            refine s_bipush C dX10_conditionFault_185 (by decide) (fun z1061 tz1061 => ?_)
                            refine s_icmp_ne (tgt := 228) C dX10_conditionFault_187 (by decide) (fun q1062 => ?_) (fun q1062 => ?_)
                            · refine s_iload_n C dX10_conditionFault_228 rfl ?_
                              exact s_iret C X dX10_conditionFault_229 ⟨(Fr.tr Fr.rf (Fr.mo kF (by decide) (by decide))), by omega, by omega, fun q => by omega⟩
                            · refine s_iload_n C dX10_conditionFault_190 rfl ?_
                              refine s_iconst C dX10_conditionFault_191 (by decide) (fun z1063 tz1063 => ?_)
                              refine s_icmp_le (tgt := 228) C dX10_conditionFault_192 (by decide) (fun q1064 => ?_) (fun q1064 => ?_)
                              · refine s_iload_n C dX10_conditionFault_228 rfl ?_
                                exact s_iret C X dX10_conditionFault_229 ⟨(Fr.tr Fr.rf (Fr.mo kF (by decide) (by decide))), by omega, by omega, fun q => by omega⟩
                              · refine s_aload_n C dX10_conditionFault_195 rfl ?_
                                refine s_callVI (st := []) C (c_X10_isOpen l ad τ o hd ho (by omega)) cv_X10_269 y71 rfl rfl rfl ⟨by decide, by decide⟩ (Nat.le_of_ble_eq_true rfl) dX10_conditionFault_196 ?_
                                intro r1065 τ1066 h1067
                                obtain ⟨eh1067, h1067⟩ := h1067; replace eh1067 := eh1067.symm; subst eh1067
                                have mh1067 := h1067.2
                                refine s_if_eq (tgt := 228) C dX10_conditionFault_199 (by decide) (fun q1068 => ?_) (fun q1068 => ?_)
                                · refine s_iload_n C dX10_conditionFault_228 rfl ?_
                                  exact s_iret C X dX10_conditionFault_229 ⟨(Fr.tr Fr.rf (Fr.mo kF (by decide) (by decide))), by omega, by omega, fun q => by omega⟩
                                · refine s_aload_n C dX10_conditionFault_202 rfl ?_
                                  refine s_callVV (st := []) C (c_X10_testEnds l ad τ o hd ho (by omega)) cv_X10_266 y71 rfl rfl rfl ⟨by decide, by decide⟩ (Nat.le_of_ble_eq_true rfl) dX10_conditionFault_203 ?_
                                  intro τ1070 h1071
                                  have dτ1070 : Int32.toInt (τ1070.1 71 49) = (te o).length := h1071.2
                                  have pτ1070 : Op (τ1070.1 109) (te o) := by rw [h1071.1.a 109 (by decide) (by decide)]; exact Op_te o ho
                                  have qτ1070 := te_len o
                                  obtain ⟨r6, hr6⟩ := te_hd (mh1067.mp (by omega))
                                  have hl6 : 1 ≤ (te o).length := by rw [hr6]; simp
                                  refine s_aload_n C dX10_conditionFault_206 rfl ?_
                                  refine s_dup C dX10_conditionFault_207 rfl ?_
                                  refine s_get (k := 49) (x := (τ1070.1 71 49)) C y71 fw_X10_260 rfl rfl dX10_conditionFault_208 ?_
                                  refine s_iconst C dX10_conditionFault_211 (by decide) (fun z1072 tz1072 => ?_)
                                  refine s_isub C dX10_conditionFault_212 (by omega) (fun z1073 tz1073 => ?_)
                                  refine s_put (k := 49) C y71 fw_X10_260 fp_9_49 rfl dX10_conditionFault_213 ?_
                                  refine s_aload_n C dX10_conditionFault_216 rfl ?_
                                  refine s_callVV (st := []) C (c_X10_testEnds l ad (sV τ1070 71 49 z1073) (te o).tail (by show Int32.toInt z1073 = _; rw [List.length_tail]; omega) (Op_tail _ pτ1070) (by rw [List.length_tail]; omega)) cv_X10_266 y71 rfl rfl rfl ⟨by decide, by decide⟩ (Nat.le_of_ble_eq_true rfl) dX10_conditionFault_217 ?_
                                  intro τ1075 h1076
                                  have dτ1075 : Int32.toInt (τ1075.1 71 49) = (te (te o).tail).length := h1076.2
                                  have pτ1075 : Op (τ1075.1 109) (te (te o).tail) := by rw [h1076.1.a 109 (by decide) (by decide)]; exact Op_te _ (Op_tail _ pτ1070)
                                  have qτ1075 := te_len (te o).tail
                                  have qqτ1075 : (te o).tail.length = (te o).length - 1 := List.length_tail
                                  skip
                                  refine s_iconst C dX10_conditionFault_220 (by decide) (fun z1077 tz1077 => ?_)
                                  refine s_istore_n C dX10_conditionFault_221 (by decide) (Nat.le_of_ble_eq_true rfl) rfl ?_
                                  show WP E ad 222 [some (.ref (ad 71)), some (.int z1077), some (.int z), some (.int (τ.1 86 z.toNatClampNeg))] [] τ1075
                                  refine s_iinc C dX10_conditionFault_222 rfl (by decide) rfl (by decide) (by omega) (fun z1078 tz1078 => ?_)
                                  show WP E ad 225 [some (.ref (ad 71)), some (.int z1077), some (.int z1078), some (.int (τ.1 86 z.toNatClampNeg))] [] τ1075
                                  refine s_goto (tgt := 230) C dX10_conditionFault_225 (by decide) ?_
                                  refine s_iload_n C dX10_conditionFault_230 rfl ?_
                                  refine s_if_ge (tgt := 238) C dX10_conditionFault_231 (by decide) (fun q1079 => ?_) (fun q1079 => ?_)
                                  · refine s_goto (tgt := 9) C dX10_conditionFault_238 (by decide) ?_
                                    refine wp_le (lv' := [some (.ref (ad 71)), some (.int z1077), some (.int z1078), none]) ⟨rfl, ⟨rfl, ⟨rfl, trivial⟩⟩⟩ ?_
                                    have ek1 : z1078.toInt.toNat = z.toInt.toNat + 1 := by omega
                                    exact ih τ1075 (te (te o).tail) z1077 z1078 (Fr.tr (Fr.sV (Fr.tr (Fr.tr Fr.rf (Fr.mo kF (by decide) (by decide))) (Fr.mo h1071.1 (by decide) (by decide))) (Or.inr (by decide))) (Fr.mo h1076.1 (by decide) (by decide))) dτ1075 pτ1075 (by omega) (by omega) (by omega) (fun ⟨f, hf⟩ => hac ⟨f + 1, Or.inr ⟨by omega, Or.inr (Or.inr (Or.inr (Or.inr (Or.inr ⟨by omega, by omega, mh1067.mp (by omega), (by rw [ek1, show z1077.toInt.toNat = 3 by omega] at hf; exact hf)⟩))))⟩⟩) (by omega)
                                  · refine s_iconst C dX10_conditionFault_234 (by decide) (fun z1080 tz1080 => ?_)
                                    refine s_iload_n C dX10_conditionFault_235 rfl ?_
                                    refine s_isub C dX10_conditionFault_236 (by omega) (fun z1081 tz1081 => ?_)
                                    exact s_iret C X dX10_conditionFault_237 ⟨(Fr.tr (Fr.sV (Fr.tr (Fr.tr Fr.rf (Fr.mo kF (by decide) (by decide))) (Fr.mo h1071.1 (by decide) (by decide))) (Or.inr (by decide))) (Fr.mo h1076.1 (by decide) (by decide))), by omega, by omega, fun q => by omega⟩
                          · refine s_aload_n C dX10_conditionFault_172 rfl ?_
                            refine s_callVV (st := []) C (c_X10_testEnds l ad τ o hd ho (by omega)) cv_X10_266 y71 rfl rfl rfl ⟨by decide, by decide⟩ (Nat.le_of_ble_eq_true rfl) dX10_conditionFault_173 ?_
                            intro τ1083 h1084
                            have dτ1083 : Int32.toInt (τ1083.1 71 49) = (te o).length := h1084.2
                            have pτ1083 : Op (τ1083.1 109) (te o) := by rw [h1084.1.a 109 (by decide) (by decide)]; exact Op_te o ho
                            have qτ1083 := te_len o
                            skip
                            refine s_iconst C dX10_conditionFault_176 (by decide) (fun z1085 tz1085 => ?_)
                            refine s_istore_n C dX10_conditionFault_177 (by decide) (Nat.le_of_ble_eq_true rfl) rfl ?_
                            show WP E ad 178 [some (.ref (ad 71)), some (.int z1085), some (.int z), some (.int (τ.1 86 z.toNatClampNeg))] [] τ1083
                            refine s_iinc C dX10_conditionFault_178 rfl (by decide) rfl (by decide) (by omega) (fun z1086 tz1086 => ?_)
                            show WP E ad 181 [some (.ref (ad 71)), some (.int z1085), some (.int z1086), some (.int (τ.1 86 z.toNatClampNeg))] [] τ1083
                            refine s_goto (tgt := 230) C dX10_conditionFault_181 (by decide) ?_
                            refine s_iload_n C dX10_conditionFault_230 rfl ?_
                            refine s_if_ge (tgt := 238) C dX10_conditionFault_231 (by decide) (fun q1087 => ?_) (fun q1087 => ?_)
                            · refine s_goto (tgt := 9) C dX10_conditionFault_238 (by decide) ?_
                              refine wp_le (lv' := [some (.ref (ad 71)), some (.int z1085), some (.int z1086), none]) ⟨rfl, ⟨rfl, ⟨rfl, trivial⟩⟩⟩ ?_
                              have ek1 : z1086.toInt.toNat = z.toInt.toNat + 1 := by omega
                              exact ih τ1083 (te o) z1085 z1086 (Fr.tr (Fr.tr Fr.rf (Fr.mo kF (by decide) (by decide))) (Fr.mo h1084.1 (by decide) (by decide))) dτ1083 pτ1083 (by omega) (by omega) (by omega) (fun ⟨f, hf⟩ => hac ⟨f + 1, Or.inr ⟨by omega, Or.inr (Or.inr (Or.inr (Or.inr (Or.inl ⟨by omega, by omega, (by rw [ek1, show z1085.toInt.toNat = 0 by omega] at hf; exact hf)⟩))))⟩⟩) (by omega)
                            · refine s_iconst C dX10_conditionFault_234 (by decide) (fun z1088 tz1088 => ?_)
                              refine s_iload_n C dX10_conditionFault_235 rfl ?_
                              refine s_isub C dX10_conditionFault_236 (by omega) (fun z1089 tz1089 => ?_)
                              exact s_iret C X dX10_conditionFault_237 ⟨(Fr.tr (Fr.tr Fr.rf (Fr.mo kF (by decide) (by decide))) (Fr.mo h1084.1 (by decide) (by decide))), by omega, by omega, fun q => by omega⟩
                    · refine s_iload_n C dX10_conditionFault_137 rfl ?_
                      refine s_iconst C dX10_conditionFault_138 (by decide) (fun z1090 tz1090 => ?_)
                      refine s_icmp_ne (tgt := 155) C dX10_conditionFault_139 (by decide) (fun q1091 => ?_) (fun q1091 => ?_)
                      · refine s_iload_n C dX10_conditionFault_155 rfl ?_
                        refine s_bipush C dX10_conditionFault_156 (by decide) (fun z1092 tz1092 => ?_)
                        refine s_icmp_eq (tgt := 167) C dX10_conditionFault_158 (by decide) (fun q1093 => ?_) (fun q1093 => ?_)
                        · refine s_iload_n C dX10_conditionFault_167 rfl ?_
                          refine s_iconst C dX10_conditionFault_168 (by decide) (fun z1094 tz1094 => ?_)
                          refine s_icmp_le (tgt := 184) C dX10_conditionFault_169 (by decide) (fun q1095 => ?_) (fun q1095 => ?_)
                          · refine s_iload_n C dX10_conditionFault_184 rfl ?_
                            refine s_bipush C dX10_conditionFault_185 (by decide) (fun z1096 tz1096 => ?_)
                            refine s_icmp_ne (tgt := 228) C dX10_conditionFault_187 (by decide) (fun q1097 => ?_) (fun q1097 => ?_)
                            · refine s_iload_n C dX10_conditionFault_228 rfl ?_
                              exact s_iret C X dX10_conditionFault_229 ⟨(Fr.tr Fr.rf (Fr.mo kF (by decide) (by decide))), by omega, by omega, fun q => by omega⟩
                            · refine s_iload_n C dX10_conditionFault_190 rfl ?_
                              refine s_iconst C dX10_conditionFault_191 (by decide) (fun z1098 tz1098 => ?_)
                              refine s_icmp_le (tgt := 228) C dX10_conditionFault_192 (by decide) (fun q1099 => ?_) (fun q1099 => ?_)
                              · refine s_iload_n C dX10_conditionFault_228 rfl ?_
                                exact s_iret C X dX10_conditionFault_229 ⟨(Fr.tr Fr.rf (Fr.mo kF (by decide) (by decide))), by omega, by omega, fun q => by omega⟩
                              · refine s_aload_n C dX10_conditionFault_195 rfl ?_
                                refine s_callVI (st := []) C (c_X10_isOpen l ad τ o hd ho (by omega)) cv_X10_269 y71 rfl rfl rfl ⟨by decide, by decide⟩ (Nat.le_of_ble_eq_true rfl) dX10_conditionFault_196 ?_
                                intro r1100 τ1101 h1102
                                obtain ⟨eh1102, h1102⟩ := h1102; replace eh1102 := eh1102.symm; subst eh1102
                                have mh1102 := h1102.2
                                refine s_if_eq (tgt := 228) C dX10_conditionFault_199 (by decide) (fun q1103 => ?_) (fun q1103 => ?_)
                                · refine s_iload_n C dX10_conditionFault_228 rfl ?_
                                  exact s_iret C X dX10_conditionFault_229 ⟨(Fr.tr Fr.rf (Fr.mo kF (by decide) (by decide))), by omega, by omega, fun q => by omega⟩
                                · refine s_aload_n C dX10_conditionFault_202 rfl ?_
                                  refine s_callVV (st := []) C (c_X10_testEnds l ad τ o hd ho (by omega)) cv_X10_266 y71 rfl rfl rfl ⟨by decide, by decide⟩ (Nat.le_of_ble_eq_true rfl) dX10_conditionFault_203 ?_
                                  intro τ1105 h1106
                                  have dτ1105 : Int32.toInt (τ1105.1 71 49) = (te o).length := h1106.2
                                  have pτ1105 : Op (τ1105.1 109) (te o) := by rw [h1106.1.a 109 (by decide) (by decide)]; exact Op_te o ho
                                  have qτ1105 := te_len o
                                  obtain ⟨r6, hr6⟩ := te_hd (mh1102.mp (by omega))
                                  have hl6 : 1 ≤ (te o).length := by rw [hr6]; simp
                                  refine s_aload_n C dX10_conditionFault_206 rfl ?_
                                  refine s_dup C dX10_conditionFault_207 rfl ?_
                                  refine s_get (k := 49) (x := (τ1105.1 71 49)) C y71 fw_X10_260 rfl rfl dX10_conditionFault_208 ?_
                                  refine s_iconst C dX10_conditionFault_211 (by decide) (fun z1107 tz1107 => ?_)
                                  refine s_isub C dX10_conditionFault_212 (by omega) (fun z1108 tz1108 => ?_)
                                  refine s_put (k := 49) C y71 fw_X10_260 fp_9_49 rfl dX10_conditionFault_213 ?_
                                  refine s_aload_n C dX10_conditionFault_216 rfl ?_
                                  refine s_callVV (st := []) C (c_X10_testEnds l ad (sV τ1105 71 49 z1108) (te o).tail (by show Int32.toInt z1108 = _; rw [List.length_tail]; omega) (Op_tail _ pτ1105) (by rw [List.length_tail]; omega)) cv_X10_266 y71 rfl rfl rfl ⟨by decide, by decide⟩ (Nat.le_of_ble_eq_true rfl) dX10_conditionFault_217 ?_
                                  intro τ1110 h1111
                                  have dτ1110 : Int32.toInt (τ1110.1 71 49) = (te (te o).tail).length := h1111.2
                                  have pτ1110 : Op (τ1110.1 109) (te (te o).tail) := by rw [h1111.1.a 109 (by decide) (by decide)]; exact Op_te _ (Op_tail _ pτ1105)
                                  have qτ1110 := te_len (te o).tail
                                  have qqτ1110 : (te o).tail.length = (te o).length - 1 := List.length_tail
                                  skip
                                  refine s_iconst C dX10_conditionFault_220 (by decide) (fun z1112 tz1112 => ?_)
                                  refine s_istore_n C dX10_conditionFault_221 (by decide) (Nat.le_of_ble_eq_true rfl) rfl ?_
                                  show WP E ad 222 [some (.ref (ad 71)), some (.int z1112), some (.int z), some (.int (τ.1 86 z.toNatClampNeg))] [] τ1110
                                  refine s_iinc C dX10_conditionFault_222 rfl (by decide) rfl (by decide) (by omega) (fun z1113 tz1113 => ?_)
                                  show WP E ad 225 [some (.ref (ad 71)), some (.int z1112), some (.int z1113), some (.int (τ.1 86 z.toNatClampNeg))] [] τ1110
                                  refine s_goto (tgt := 230) C dX10_conditionFault_225 (by decide) ?_
                                  refine s_iload_n C dX10_conditionFault_230 rfl ?_
                                  refine s_if_ge (tgt := 238) C dX10_conditionFault_231 (by decide) (fun q1114 => ?_) (fun q1114 => ?_)
                                  · refine s_goto (tgt := 9) C dX10_conditionFault_238 (by decide) ?_
                                    refine wp_le (lv' := [some (.ref (ad 71)), some (.int z1112), some (.int z1113), none]) ⟨rfl, ⟨rfl, ⟨rfl, trivial⟩⟩⟩ ?_
                                    have ek1 : z1113.toInt.toNat = z.toInt.toNat + 1 := by omega
                                    exact ih τ1110 (te (te o).tail) z1112 z1113 (Fr.tr (Fr.sV (Fr.tr (Fr.tr Fr.rf (Fr.mo kF (by decide) (by decide))) (Fr.mo h1106.1 (by decide) (by decide))) (Or.inr (by decide))) (Fr.mo h1111.1 (by decide) (by decide))) dτ1110 pτ1110 (by omega) (by omega) (by omega) (fun ⟨f, hf⟩ => hac ⟨f + 1, Or.inr ⟨by omega, Or.inr (Or.inr (Or.inr (Or.inr (Or.inr ⟨by omega, by omega, mh1102.mp (by omega), (by rw [ek1, show z1112.toInt.toNat = 3 by omega] at hf; exact hf)⟩))))⟩⟩) (by omega)
                                  · refine s_iconst C dX10_conditionFault_234 (by decide) (fun z1115 tz1115 => ?_)
                                    refine s_iload_n C dX10_conditionFault_235 rfl ?_
                                    refine s_isub C dX10_conditionFault_236 (by omega) (fun z1116 tz1116 => ?_)
                                    exact s_iret C X dX10_conditionFault_237 ⟨(Fr.tr (Fr.sV (Fr.tr (Fr.tr Fr.rf (Fr.mo kF (by decide) (by decide))) (Fr.mo h1106.1 (by decide) (by decide))) (Or.inr (by decide))) (Fr.mo h1111.1 (by decide) (by decide))), by omega, by omega, fun q => by omega⟩
                          · refine s_aload_n C dX10_conditionFault_172 rfl ?_
                            refine s_callVV (st := []) C (c_X10_testEnds l ad τ o hd ho (by omega)) cv_X10_266 y71 rfl rfl rfl ⟨by decide, by decide⟩ (Nat.le_of_ble_eq_true rfl) dX10_conditionFault_173 ?_
                            intro τ1118 h1119
                            have dτ1118 : Int32.toInt (τ1118.1 71 49) = (te o).length := h1119.2
                            have pτ1118 : Op (τ1118.1 109) (te o) := by rw [h1119.1.a 109 (by decide) (by decide)]; exact Op_te o ho
                            have qτ1118 := te_len o
                            skip
                            refine s_iconst C dX10_conditionFault_176 (by decide) (fun z1120 tz1120 => ?_)
                            refine s_istore_n C dX10_conditionFault_177 (by decide) (Nat.le_of_ble_eq_true rfl) rfl ?_
                            show WP E ad 178 [some (.ref (ad 71)), some (.int z1120), some (.int z), some (.int (τ.1 86 z.toNatClampNeg))] [] τ1118
                            refine s_iinc C dX10_conditionFault_178 rfl (by decide) rfl (by decide) (by omega) (fun z1121 tz1121 => ?_)
                            show WP E ad 181 [some (.ref (ad 71)), some (.int z1120), some (.int z1121), some (.int (τ.1 86 z.toNatClampNeg))] [] τ1118
                            refine s_goto (tgt := 230) C dX10_conditionFault_181 (by decide) ?_
                            refine s_iload_n C dX10_conditionFault_230 rfl ?_
                            refine s_if_ge (tgt := 238) C dX10_conditionFault_231 (by decide) (fun q1122 => ?_) (fun q1122 => ?_)
                            · refine s_goto (tgt := 9) C dX10_conditionFault_238 (by decide) ?_
                              refine wp_le (lv' := [some (.ref (ad 71)), some (.int z1120), some (.int z1121), none]) ⟨rfl, ⟨rfl, ⟨rfl, trivial⟩⟩⟩ ?_
                              have ek1 : z1121.toInt.toNat = z.toInt.toNat + 1 := by omega
                              exact ih τ1118 (te o) z1120 z1121 (Fr.tr (Fr.tr Fr.rf (Fr.mo kF (by decide) (by decide))) (Fr.mo h1119.1 (by decide) (by decide))) dτ1118 pτ1118 (by omega) (by omega) (by omega) (fun ⟨f, hf⟩ => hac ⟨f + 1, Or.inr ⟨by omega, Or.inr (Or.inr (Or.inr (Or.inr (Or.inl ⟨by omega, by omega, (by rw [ek1, show z1120.toInt.toNat = 0 by omega] at hf; exact hf)⟩))))⟩⟩) (by omega)
                            · refine s_iconst C dX10_conditionFault_234 (by decide) (fun z1123 tz1123 => ?_)
                              refine s_iload_n C dX10_conditionFault_235 rfl ?_
                              refine s_isub C dX10_conditionFault_236 (by omega) (fun z1124 tz1124 => ?_)
                              exact s_iret C X dX10_conditionFault_237 ⟨(Fr.tr (Fr.tr Fr.rf (Fr.mo kF (by decide) (by decide))) (Fr.mo h1119.1 (by decide) (by decide))), by omega, by omega, fun q => by omega⟩
                        · refine s_iload_n C dX10_conditionFault_161 rfl ?_
                          refine s_bipush C dX10_conditionFault_162 (by decide) (fun z1125 tz1125 => ?_)
                          refine s_icmp_ne (tgt := 184) C dX10_conditionFault_164 (by decide) (fun q1126 => ?_) (fun q1126 => ?_)
                          · refine s_iload_n C dX10_conditionFault_184 rfl ?_
                            refine s_bipush C dX10_conditionFault_185 (by decide) (fun z1127 tz1127 => ?_)
                            refine s_icmp_ne (tgt := 228) C dX10_conditionFault_187 (by decide) (fun q1128 => ?_) (fun q1128 => ?_)
                            · refine s_iload_n C dX10_conditionFault_228 rfl ?_
                              exact s_iret C X dX10_conditionFault_229 ⟨(Fr.tr Fr.rf (Fr.mo kF (by decide) (by decide))), by omega, by omega, fun q => by omega⟩
                            · refine s_iload_n C dX10_conditionFault_190 rfl ?_
                              refine s_iconst C dX10_conditionFault_191 (by decide) (fun z1129 tz1129 => ?_)
                              refine s_icmp_le (tgt := 228) C dX10_conditionFault_192 (by decide) (fun q1130 => ?_) (fun q1130 => ?_)
                              · refine s_iload_n C dX10_conditionFault_228 rfl ?_
                                exact s_iret C X dX10_conditionFault_229 ⟨(Fr.tr Fr.rf (Fr.mo kF (by decide) (by decide))), by omega, by omega, fun q => by omega⟩
                              · refine s_aload_n C dX10_conditionFault_195 rfl ?_
                                refine s_callVI (st := []) C (c_X10_isOpen l ad τ o hd ho (by omega)) cv_X10_269 y71 rfl rfl rfl ⟨by decide, by decide⟩ (Nat.le_of_ble_eq_true rfl) dX10_conditionFault_196 ?_
                                intro r1131 τ1132 h1133
                                obtain ⟨eh1133, h1133⟩ := h1133; replace eh1133 := eh1133.symm; subst eh1133
                                have mh1133 := h1133.2
                                refine s_if_eq (tgt := 228) C dX10_conditionFault_199 (by decide) (fun q1134 => ?_) (fun q1134 => ?_)
                                · refine s_iload_n C dX10_conditionFault_228 rfl ?_
                                  exact s_iret C X dX10_conditionFault_229 ⟨(Fr.tr Fr.rf (Fr.mo kF (by decide) (by decide))), by omega, by omega, fun q => by omega⟩
                                · refine s_aload_n C dX10_conditionFault_202 rfl ?_
                                  refine s_callVV (st := []) C (c_X10_testEnds l ad τ o hd ho (by omega)) cv_X10_266 y71 rfl rfl rfl ⟨by decide, by decide⟩ (Nat.le_of_ble_eq_true rfl) dX10_conditionFault_203 ?_
                                  intro τ1136 h1137
                                  have dτ1136 : Int32.toInt (τ1136.1 71 49) = (te o).length := h1137.2
                                  have pτ1136 : Op (τ1136.1 109) (te o) := by rw [h1137.1.a 109 (by decide) (by decide)]; exact Op_te o ho
                                  have qτ1136 := te_len o
                                  obtain ⟨r6, hr6⟩ := te_hd (mh1133.mp (by omega))
                                  have hl6 : 1 ≤ (te o).length := by rw [hr6]; simp
                                  refine s_aload_n C dX10_conditionFault_206 rfl ?_
                                  refine s_dup C dX10_conditionFault_207 rfl ?_
                                  refine s_get (k := 49) (x := (τ1136.1 71 49)) C y71 fw_X10_260 rfl rfl dX10_conditionFault_208 ?_
                                  refine s_iconst C dX10_conditionFault_211 (by decide) (fun z1138 tz1138 => ?_)
                                  refine s_isub C dX10_conditionFault_212 (by omega) (fun z1139 tz1139 => ?_)
                                  refine s_put (k := 49) C y71 fw_X10_260 fp_9_49 rfl dX10_conditionFault_213 ?_
                                  refine s_aload_n C dX10_conditionFault_216 rfl ?_
                                  refine s_callVV (st := []) C (c_X10_testEnds l ad (sV τ1136 71 49 z1139) (te o).tail (by show Int32.toInt z1139 = _; rw [List.length_tail]; omega) (Op_tail _ pτ1136) (by rw [List.length_tail]; omega)) cv_X10_266 y71 rfl rfl rfl ⟨by decide, by decide⟩ (Nat.le_of_ble_eq_true rfl) dX10_conditionFault_217 ?_
                                  intro τ1141 h1142
                                  have dτ1141 : Int32.toInt (τ1141.1 71 49) = (te (te o).tail).length := h1142.2
                                  have pτ1141 : Op (τ1141.1 109) (te (te o).tail) := by rw [h1142.1.a 109 (by decide) (by decide)]; exact Op_te _ (Op_tail _ pτ1136)
                                  have qτ1141 := te_len (te o).tail
                                  have qqτ1141 : (te o).tail.length = (te o).length - 1 := List.length_tail
                                  skip
                                  refine s_iconst C dX10_conditionFault_220 (by decide) (fun z1143 tz1143 => ?_)
                                  refine s_istore_n C dX10_conditionFault_221 (by decide) (Nat.le_of_ble_eq_true rfl) rfl ?_
                                  show WP E ad 222 [some (.ref (ad 71)), some (.int z1143), some (.int z), some (.int (τ.1 86 z.toNatClampNeg))] [] τ1141
                                  refine s_iinc C dX10_conditionFault_222 rfl (by decide) rfl (by decide) (by omega) (fun z1144 tz1144 => ?_)
                                  show WP E ad 225 [some (.ref (ad 71)), some (.int z1143), some (.int z1144), some (.int (τ.1 86 z.toNatClampNeg))] [] τ1141
                                  refine s_goto (tgt := 230) C dX10_conditionFault_225 (by decide) ?_
                                  refine s_iload_n C dX10_conditionFault_230 rfl ?_
                                  refine s_if_ge (tgt := 238) C dX10_conditionFault_231 (by decide) (fun q1145 => ?_) (fun q1145 => ?_)
                                  · refine s_goto (tgt := 9) C dX10_conditionFault_238 (by decide) ?_
                                    refine wp_le (lv' := [some (.ref (ad 71)), some (.int z1143), some (.int z1144), none]) ⟨rfl, ⟨rfl, ⟨rfl, trivial⟩⟩⟩ ?_
                                    have ek1 : z1144.toInt.toNat = z.toInt.toNat + 1 := by omega
                                    exact ih τ1141 (te (te o).tail) z1143 z1144 (Fr.tr (Fr.sV (Fr.tr (Fr.tr Fr.rf (Fr.mo kF (by decide) (by decide))) (Fr.mo h1137.1 (by decide) (by decide))) (Or.inr (by decide))) (Fr.mo h1142.1 (by decide) (by decide))) dτ1141 pτ1141 (by omega) (by omega) (by omega) (fun ⟨f, hf⟩ => hac ⟨f + 1, Or.inr ⟨by omega, Or.inr (Or.inr (Or.inr (Or.inr (Or.inr ⟨by omega, by omega, mh1133.mp (by omega), (by rw [ek1, show z1143.toInt.toNat = 3 by omega] at hf; exact hf)⟩))))⟩⟩) (by omega)
                                  · refine s_iconst C dX10_conditionFault_234 (by decide) (fun z1146 tz1146 => ?_)
                                    refine s_iload_n C dX10_conditionFault_235 rfl ?_
                                    refine s_isub C dX10_conditionFault_236 (by omega) (fun z1147 tz1147 => ?_)
                                    exact s_iret C X dX10_conditionFault_237 ⟨(Fr.tr (Fr.sV (Fr.tr (Fr.tr Fr.rf (Fr.mo kF (by decide) (by decide))) (Fr.mo h1137.1 (by decide) (by decide))) (Or.inr (by decide))) (Fr.mo h1142.1 (by decide) (by decide))), by omega, by omega, fun q => by omega⟩
                          · refine s_iload_n C dX10_conditionFault_167 rfl ?_
                            refine s_iconst C dX10_conditionFault_168 (by decide) (fun z1148 tz1148 => ?_)
                            refine s_icmp_le (tgt := 184) C dX10_conditionFault_169 (by decide) (fun q1149 => ?_) (fun q1149 => ?_)
                            · refine s_iload_n C dX10_conditionFault_184 rfl ?_
                              refine s_bipush C dX10_conditionFault_185 (by decide) (fun z1150 tz1150 => ?_)
                              refine s_icmp_ne (tgt := 228) C dX10_conditionFault_187 (by decide) (fun q1151 => ?_) (fun q1151 => ?_)
                              · refine s_iload_n C dX10_conditionFault_228 rfl ?_
                                exact s_iret C X dX10_conditionFault_229 ⟨(Fr.tr Fr.rf (Fr.mo kF (by decide) (by decide))), by omega, by omega, fun q => by omega⟩
                              · refine s_iload_n C dX10_conditionFault_190 rfl ?_
                                refine s_iconst C dX10_conditionFault_191 (by decide) (fun z1152 tz1152 => ?_)
                                refine s_icmp_le (tgt := 228) C dX10_conditionFault_192 (by decide) (fun q1153 => ?_) (fun q1153 => ?_)
                                · refine s_iload_n C dX10_conditionFault_228 rfl ?_
                                  exact s_iret C X dX10_conditionFault_229 ⟨(Fr.tr Fr.rf (Fr.mo kF (by decide) (by decide))), by omega, by omega, fun q => by omega⟩
                                · refine s_aload_n C dX10_conditionFault_195 rfl ?_
                                  refine s_callVI (st := []) C (c_X10_isOpen l ad τ o hd ho (by omega)) cv_X10_269 y71 rfl rfl rfl ⟨by decide, by decide⟩ (Nat.le_of_ble_eq_true rfl) dX10_conditionFault_196 ?_
                                  intro r1154 τ1155 h1156
                                  obtain ⟨eh1156, h1156⟩ := h1156; replace eh1156 := eh1156.symm; subst eh1156
                                  have mh1156 := h1156.2
                                  refine s_if_eq (tgt := 228) C dX10_conditionFault_199 (by decide) (fun q1157 => ?_) (fun q1157 => ?_)
                                  · refine s_iload_n C dX10_conditionFault_228 rfl ?_
                                    exact s_iret C X dX10_conditionFault_229 ⟨(Fr.tr Fr.rf (Fr.mo kF (by decide) (by decide))), by omega, by omega, fun q => by omega⟩
                                  · refine s_aload_n C dX10_conditionFault_202 rfl ?_
                                    refine s_callVV (st := []) C (c_X10_testEnds l ad τ o hd ho (by omega)) cv_X10_266 y71 rfl rfl rfl ⟨by decide, by decide⟩ (Nat.le_of_ble_eq_true rfl) dX10_conditionFault_203 ?_
                                    intro τ1159 h1160
                                    have dτ1159 : Int32.toInt (τ1159.1 71 49) = (te o).length := h1160.2
                                    have pτ1159 : Op (τ1159.1 109) (te o) := by rw [h1160.1.a 109 (by decide) (by decide)]; exact Op_te o ho
                                    have qτ1159 := te_len o
                                    obtain ⟨r6, hr6⟩ := te_hd (mh1156.mp (by omega))
                                    have hl6 : 1 ≤ (te o).length := by rw [hr6]; simp
                                    refine s_aload_n C dX10_conditionFault_206 rfl ?_
                                    refine s_dup C dX10_conditionFault_207 rfl ?_
                                    refine s_get (k := 49) (x := (τ1159.1 71 49)) C y71 fw_X10_260 rfl rfl dX10_conditionFault_208 ?_
                                    refine s_iconst C dX10_conditionFault_211 (by decide) (fun z1161 tz1161 => ?_)
                                    refine s_isub C dX10_conditionFault_212 (by omega) (fun z1162 tz1162 => ?_)
                                    refine s_put (k := 49) C y71 fw_X10_260 fp_9_49 rfl dX10_conditionFault_213 ?_
                                    refine s_aload_n C dX10_conditionFault_216 rfl ?_
                                    refine s_callVV (st := []) C (c_X10_testEnds l ad (sV τ1159 71 49 z1162) (te o).tail (by show Int32.toInt z1162 = _; rw [List.length_tail]; omega) (Op_tail _ pτ1159) (by rw [List.length_tail]; omega)) cv_X10_266 y71 rfl rfl rfl ⟨by decide, by decide⟩ (Nat.le_of_ble_eq_true rfl) dX10_conditionFault_217 ?_
                                    intro τ1164 h1165
                                    have dτ1164 : Int32.toInt (τ1164.1 71 49) = (te (te o).tail).length := h1165.2
                                    have pτ1164 : Op (τ1164.1 109) (te (te o).tail) := by rw [h1165.1.a 109 (by decide) (by decide)]; exact Op_te _ (Op_tail _ pτ1159)
                                    have qτ1164 := te_len (te o).tail
                                    have qqτ1164 : (te o).tail.length = (te o).length - 1 := List.length_tail
                                    skip
                                    refine s_iconst C dX10_conditionFault_220 (by decide) (fun z1166 tz1166 => ?_)
                                    refine s_istore_n C dX10_conditionFault_221 (by decide) (Nat.le_of_ble_eq_true rfl) rfl ?_
                                    show WP E ad 222 [some (.ref (ad 71)), some (.int z1166), some (.int z), some (.int (τ.1 86 z.toNatClampNeg))] [] τ1164
                                    refine s_iinc C dX10_conditionFault_222 rfl (by decide) rfl (by decide) (by omega) (fun z1167 tz1167 => ?_)
                                    show WP E ad 225 [some (.ref (ad 71)), some (.int z1166), some (.int z1167), some (.int (τ.1 86 z.toNatClampNeg))] [] τ1164
                                    refine s_goto (tgt := 230) C dX10_conditionFault_225 (by decide) ?_
                                    refine s_iload_n C dX10_conditionFault_230 rfl ?_
                                    refine s_if_ge (tgt := 238) C dX10_conditionFault_231 (by decide) (fun q1168 => ?_) (fun q1168 => ?_)
                                    · refine s_goto (tgt := 9) C dX10_conditionFault_238 (by decide) ?_
                                      refine wp_le (lv' := [some (.ref (ad 71)), some (.int z1166), some (.int z1167), none]) ⟨rfl, ⟨rfl, ⟨rfl, trivial⟩⟩⟩ ?_
                                      have ek1 : z1167.toInt.toNat = z.toInt.toNat + 1 := by omega
                                      exact ih τ1164 (te (te o).tail) z1166 z1167 (Fr.tr (Fr.sV (Fr.tr (Fr.tr Fr.rf (Fr.mo kF (by decide) (by decide))) (Fr.mo h1160.1 (by decide) (by decide))) (Or.inr (by decide))) (Fr.mo h1165.1 (by decide) (by decide))) dτ1164 pτ1164 (by omega) (by omega) (by omega) (fun ⟨f, hf⟩ => hac ⟨f + 1, Or.inr ⟨by omega, Or.inr (Or.inr (Or.inr (Or.inr (Or.inr ⟨by omega, by omega, mh1156.mp (by omega), (by rw [ek1, show z1166.toInt.toNat = 3 by omega] at hf; exact hf)⟩))))⟩⟩) (by omega)
                                    · refine s_iconst C dX10_conditionFault_234 (by decide) (fun z1169 tz1169 => ?_)
                                      refine s_iload_n C dX10_conditionFault_235 rfl ?_
                                      refine s_isub C dX10_conditionFault_236 (by omega) (fun z1170 tz1170 => ?_)
                                      exact s_iret C X dX10_conditionFault_237 ⟨(Fr.tr (Fr.sV (Fr.tr (Fr.tr Fr.rf (Fr.mo kF (by decide) (by decide))) (Fr.mo h1160.1 (by decide) (by decide))) (Or.inr (by decide))) (Fr.mo h1165.1 (by decide) (by decide))), by omega, by omega, fun q => by omega⟩
                            · refine s_aload_n C dX10_conditionFault_172 rfl ?_
                              refine s_callVV (st := []) C (c_X10_testEnds l ad τ o hd ho (by omega)) cv_X10_266 y71 rfl rfl rfl ⟨by decide, by decide⟩ (Nat.le_of_ble_eq_true rfl) dX10_conditionFault_173 ?_
                              intro τ1172 h1173
                              have dτ1172 : Int32.toInt (τ1172.1 71 49) = (te o).length := h1173.2
                              have pτ1172 : Op (τ1172.1 109) (te o) := by rw [h1173.1.a 109 (by decide) (by decide)]; exact Op_te o ho
                              have qτ1172 := te_len o
                              skip
                              refine s_iconst C dX10_conditionFault_176 (by decide) (fun z1174 tz1174 => ?_)
                              refine s_istore_n C dX10_conditionFault_177 (by decide) (Nat.le_of_ble_eq_true rfl) rfl ?_
                              show WP E ad 178 [some (.ref (ad 71)), some (.int z1174), some (.int z), some (.int (τ.1 86 z.toNatClampNeg))] [] τ1172
                              refine s_iinc C dX10_conditionFault_178 rfl (by decide) rfl (by decide) (by omega) (fun z1175 tz1175 => ?_)
                              show WP E ad 181 [some (.ref (ad 71)), some (.int z1174), some (.int z1175), some (.int (τ.1 86 z.toNatClampNeg))] [] τ1172
                              refine s_goto (tgt := 230) C dX10_conditionFault_181 (by decide) ?_
                              refine s_iload_n C dX10_conditionFault_230 rfl ?_
                              refine s_if_ge (tgt := 238) C dX10_conditionFault_231 (by decide) (fun q1176 => ?_) (fun q1176 => ?_)
                              · refine s_goto (tgt := 9) C dX10_conditionFault_238 (by decide) ?_
                                refine wp_le (lv' := [some (.ref (ad 71)), some (.int z1174), some (.int z1175), none]) ⟨rfl, ⟨rfl, ⟨rfl, trivial⟩⟩⟩ ?_
                                have ek1 : z1175.toInt.toNat = z.toInt.toNat + 1 := by omega
                                exact ih τ1172 (te o) z1174 z1175 (Fr.tr (Fr.tr Fr.rf (Fr.mo kF (by decide) (by decide))) (Fr.mo h1173.1 (by decide) (by decide))) dτ1172 pτ1172 (by omega) (by omega) (by omega) (fun ⟨f, hf⟩ => hac ⟨f + 1, Or.inr ⟨by omega, Or.inr (Or.inr (Or.inr (Or.inr (Or.inl ⟨by omega, by omega, (by rw [ek1, show z1174.toInt.toNat = 0 by omega] at hf; exact hf)⟩))))⟩⟩) (by omega)
                              · refine s_iconst C dX10_conditionFault_234 (by decide) (fun z1177 tz1177 => ?_)
                                refine s_iload_n C dX10_conditionFault_235 rfl ?_
                                refine s_isub C dX10_conditionFault_236 (by omega) (fun z1178 tz1178 => ?_)
                                exact s_iret C X dX10_conditionFault_237 ⟨(Fr.tr (Fr.tr Fr.rf (Fr.mo kF (by decide) (by decide))) (Fr.mo h1173.1 (by decide) (by decide))), by omega, by omega, fun q => by omega⟩
                      · refine s_aload_n C dX10_conditionFault_142 rfl ?_
                        refine s_iload_n C dX10_conditionFault_143 rfl ?_
                        refine s_iconst C dX10_conditionFault_144 (by decide) (fun z1179 tz1179 => ?_)
                        refine s_iadd C dX10_conditionFault_145 (by omega) (fun z1180 tz1180 => ?_)
                        refine s_callVI (st := []) C (c_X10_behindUnit l ad τ z1180 (by omega) (by omega) (by omega)) cv_X10_263 y71 rfl rfl rfl ⟨by decide, by decide⟩ (Nat.le_of_ble_eq_true rfl) dX10_conditionFault_146 ?_
                        intro r1181 τ1182 h1183
                        obtain ⟨eh1183, h1183⟩ := h1183; replace eh1183 := eh1183.symm; subst eh1183
                        have uh1183 := h1183.2.2
                        rw [f0, f17, e86] at uh1183
                        have vh1183 : 0 ≤ Int32.toInt r1181 → Int32.toInt r1181 ≤ Int32.toInt (σ.1 71 17) := fun q => by have := un_le (uh1183 q).2; omega
                        skip
                        refine s_istore_n C dX10_conditionFault_149 (by decide) (Nat.le_of_ble_eq_true rfl) rfl ?_
                        show WP E ad 150 [some (.ref (ad 71)), some (.int y), some (.int r1181), some (.int (τ.1 86 z.toNatClampNeg))] [] τ
                        refine s_iconst C dX10_conditionFault_150 (by decide) (fun z1184 tz1184 => ?_)
                        refine s_istore_n C dX10_conditionFault_151 (by decide) (Nat.le_of_ble_eq_true rfl) rfl ?_
                        show WP E ad 152 [some (.ref (ad 71)), some (.int z1184), some (.int r1181), some (.int (τ.1 86 z.toNatClampNeg))] [] τ
                        refine s_goto (tgt := 230) C dX10_conditionFault_152 (by decide) ?_
                        refine s_iload_n C dX10_conditionFault_230 rfl ?_
                        refine s_if_ge (tgt := 238) C dX10_conditionFault_231 (by decide) (fun q1185 => ?_) (fun q1185 => ?_)
                        · refine s_goto (tgt := 9) C dX10_conditionFault_238 (by decide) ?_
                          refine wp_le (lv' := [some (.ref (ad 71)), some (.int z1184), some (.int r1181), none]) ⟨rfl, ⟨rfl, ⟨rfl, trivial⟩⟩⟩ ?_
                          have ez1 : z1180.toInt.toNat = z.toInt.toNat + 1 := by omega
                          rw [ez1] at uh1183
                          exact ih τ o z1184 r1181 (Fr.tr Fr.rf (Fr.mo kF (by decide) (by decide))) hd ho (by omega) (by omega) (by omega) (fun ⟨f, hf⟩ => hac ⟨f + 1, Or.inr ⟨by omega, Or.inr (Or.inr (Or.inr (Or.inl ⟨by omega, by omega, _, (uh1183 (by omega)).2, (by rw [show z1184.toInt.toNat = 2 by omega] at hf; exact hf)⟩)))⟩⟩) (by omega)
                        · refine s_iconst C dX10_conditionFault_234 (by decide) (fun z1186 tz1186 => ?_)
                          refine s_iload_n C dX10_conditionFault_235 rfl ?_
                          refine s_isub C dX10_conditionFault_236 (by omega) (fun z1187 tz1187 => ?_)
                          exact s_iret C X dX10_conditionFault_237 ⟨(Fr.tr Fr.rf (Fr.mo kF (by decide) (by decide))), by omega, by omega, fun q => by omega⟩
              · refine s_aload_n C dX10_conditionFault_108 rfl ?_
                refine s_iload_n C dX10_conditionFault_109 rfl ?_
                refine s_iconst C dX10_conditionFault_110 (by decide) (fun z1188 tz1188 => ?_)
                refine s_iadd C dX10_conditionFault_111 (by omega) (fun z1189 tz1189 => ?_)
                refine s_callVI (st := []) C (c_X10_behindUnit l ad τ z1189 (by omega) (by omega) (by omega)) cv_X10_263 y71 rfl rfl rfl ⟨by decide, by decide⟩ (Nat.le_of_ble_eq_true rfl) dX10_conditionFault_112 ?_
                intro r1190 τ1191 h1192
                obtain ⟨eh1192, h1192⟩ := h1192; replace eh1192 := eh1192.symm; subst eh1192
                have uh1192 := h1192.2.2
                rw [f0, f17, e86] at uh1192
                have vh1192 : 0 ≤ Int32.toInt r1190 → Int32.toInt r1190 ≤ Int32.toInt (σ.1 71 17) := fun q => by have := un_le (uh1192 q).2; omega
                skip
                refine s_istore_n C dX10_conditionFault_115 (by decide) (Nat.le_of_ble_eq_true rfl) rfl ?_
                show WP E ad 116 [some (.ref (ad 71)), some (.int y), some (.int r1190), some (.int (τ.1 86 z.toNatClampNeg))] [] τ
                refine s_goto (tgt := 230) C dX10_conditionFault_116 (by decide) ?_
                refine s_iload_n C dX10_conditionFault_230 rfl ?_
                refine s_if_ge (tgt := 238) C dX10_conditionFault_231 (by decide) (fun q1193 => ?_) (fun q1193 => ?_)
                · refine s_goto (tgt := 9) C dX10_conditionFault_238 (by decide) ?_
                  refine wp_le (lv' := [some (.ref (ad 71)), some (.int y), some (.int r1190), none]) ⟨rfl, ⟨rfl, ⟨rfl, trivial⟩⟩⟩ ?_
                  have ez1 : z1189.toInt.toNat = z.toInt.toNat + 1 := by omega
                  rw [ez1] at uh1192
                  exact ih τ o y r1190 (Fr.tr Fr.rf (Fr.mo kF (by decide) (by decide))) hd ho (by omega) (by omega) (by omega) (fun ⟨f, hf⟩ => hac ⟨f + 1, Or.inr ⟨by omega, Or.inr (Or.inr (Or.inl ⟨by omega, by omega, _, (uh1192 (by omega)).2, hf⟩))⟩⟩) (by omega)
                · refine s_iconst C dX10_conditionFault_234 (by decide) (fun z1194 tz1194 => ?_)
                  refine s_iload_n C dX10_conditionFault_235 rfl ?_
                  refine s_isub C dX10_conditionFault_236 (by omega) (fun z1195 tz1195 => ?_)
                  exact s_iret C X dX10_conditionFault_237 ⟨(Fr.tr Fr.rf (Fr.mo kF (by decide) (by decide))), by omega, by omega, fun q => by omega⟩
        · refine s_aload_n C dX10_conditionFault_80 rfl ?_
          refine s_iload_n C dX10_conditionFault_81 rfl ?_
          refine s_callVI (st := []) C (c_X10_behindUnit l ad τ z (by omega) (by omega) (by omega)) cv_X10_263 y71 rfl rfl rfl ⟨by decide, by decide⟩ (Nat.le_of_ble_eq_true rfl) dX10_conditionFault_82 ?_
          intro r1196 τ1197 h1198
          obtain ⟨eh1198, h1198⟩ := h1198; replace eh1198 := eh1198.symm; subst eh1198
          have uh1198 := h1198.2.2
          rw [f0, f17, e86] at uh1198
          have vh1198 : 0 ≤ Int32.toInt r1196 → Int32.toInt r1196 ≤ Int32.toInt (σ.1 71 17) := fun q => by have := un_le (uh1198 q).2; omega
          skip
          refine s_istore_n C dX10_conditionFault_85 (by decide) (Nat.le_of_ble_eq_true rfl) rfl ?_
          show WP E ad 86 [some (.ref (ad 71)), some (.int y), some (.int r1196), some (.int (τ.1 86 z.toNatClampNeg))] [] τ
          refine s_iconst C dX10_conditionFault_86 (by decide) (fun z1199 tz1199 => ?_)
          refine s_istore_n C dX10_conditionFault_87 (by decide) (Nat.le_of_ble_eq_true rfl) rfl ?_
          show WP E ad 88 [some (.ref (ad 71)), some (.int z1199), some (.int r1196), some (.int (τ.1 86 z.toNatClampNeg))] [] τ
          refine s_goto (tgt := 230) C dX10_conditionFault_88 (by decide) ?_
          refine s_iload_n C dX10_conditionFault_230 rfl ?_
          refine s_if_ge (tgt := 238) C dX10_conditionFault_231 (by decide) (fun q1200 => ?_) (fun q1200 => ?_)
          · refine s_goto (tgt := 9) C dX10_conditionFault_238 (by decide) ?_
            refine wp_le (lv' := [some (.ref (ad 71)), some (.int z1199), some (.int r1196), none]) ⟨rfl, ⟨rfl, ⟨rfl, trivial⟩⟩⟩ ?_
            exact ih τ o z1199 r1196 (Fr.tr Fr.rf (Fr.mo kF (by decide) (by decide))) hd ho (by omega) (by omega) (by omega) (fun ⟨f, hf⟩ => hac ⟨f + 1, Or.inr ⟨by omega, Or.inr (Or.inl ⟨by omega, by omega, _, (uh1198 (by omega)).2, (by rw [show z1199.toInt.toNat = 1 by omega] at hf; exact hf)⟩)⟩⟩) (by omega)
          · refine s_iconst C dX10_conditionFault_234 (by decide) (fun z1201 tz1201 => ?_)
            refine s_iload_n C dX10_conditionFault_235 rfl ?_
            refine s_isub C dX10_conditionFault_236 (by omega) (fun z1202 tz1202 => ?_)
            exact s_iret C X dX10_conditionFault_237 ⟨(Fr.tr Fr.rf (Fr.mo kF (by decide) (by decide))), by omega, by omega, fun q => by omega⟩
      · refine s_iload_n C dX10_conditionFault_28 rfl ?_
        refine s_bipush C dX10_conditionFault_29 (by decide) (fun z1203 tz1203 => ?_)
        refine s_icmp_eq (tgt := 40) C dX10_conditionFault_31 (by decide) (fun q1204 => ?_) (fun q1204 => ?_)
        · refine s_aload_n C dX10_conditionFault_40 rfl ?_
          refine s_get (k := 49) (x := (τ.1 71 49)) C y71 fw_X10_260 rfl rfl dX10_conditionFault_41 ?_
          refine s_iconst C dX10_conditionFault_44 (by decide) (fun z1205 tz1205 => ?_)
          refine s_icmp_ne (tgt := 50) C dX10_conditionFault_45 (by decide) (fun q1206 => ?_) (fun q1206 => ?_)
          · refine s_aload_n C dX10_conditionFault_50 rfl ?_
            refine s_getr (k := 48) (j := 109) C y71 fw_X10_128 rfl dX10_conditionFault_51 ?_
            refine s_aload_n C dX10_conditionFault_54 rfl ?_
            refine s_get (k := 49) (x := (τ.1 71 49)) C y71 fw_X10_260 rfl rfl dX10_conditionFault_55 ?_
            refine s_iload_n C dX10_conditionFault_58 rfl ?_
            refine s_iast C y109 (by omega) dX10_conditionFault_59 ?_
            skip
            refine s_aload_n C dX10_conditionFault_60 rfl ?_
            refine s_dup C dX10_conditionFault_61 rfl ?_
            refine s_get (k := 49) (x := (τ.1 71 49)) C y71 fw_X10_260 rfl rfl dX10_conditionFault_62 ?_
            refine s_iconst C dX10_conditionFault_65 (by decide) (fun z1207 tz1207 => ?_)
            refine s_iadd C dX10_conditionFault_66 (by omega) (fun z1208 tz1208 => ?_)
            refine s_put (k := 49) C y71 fw_X10_260 fp_9_49 rfl dX10_conditionFault_67 ?_
            refine s_iinc C dX10_conditionFault_70 rfl (by decide) rfl (by decide) (by omega) (fun z1209 tz1209 => ?_)
            show WP E ad 73 [some (.ref (ad 71)), some (.int y), some (.int z1209), some (.int (τ.1 86 z.toNatClampNeg))] [] (sV (sV τ 109 ((τ.1 71 49).toNatClampNeg) (τ.1 86 z.toNatClampNeg)) 71 49 z1208)
            refine s_goto (tgt := 230) C dX10_conditionFault_73 (by decide) ?_
            refine s_iload_n C dX10_conditionFault_230 rfl ?_
            refine s_if_ge (tgt := 238) C dX10_conditionFault_231 (by decide) (fun q1210 => ?_) (fun q1210 => ?_)
            · refine s_goto (tgt := 9) C dX10_conditionFault_238 (by decide) ?_
              refine wp_le (lv' := [some (.ref (ad 71)), some (.int y), some (.int z1209), none]) ⟨rfl, ⟨rfl, ⟨rfl, trivial⟩⟩⟩ ?_
              have ek1 : z1209.toInt.toNat = z.toInt.toNat + 1 := by omega
              have hdn : (τ.1 71 49).toNatClampNeg = o.length := by unfold Int32.toNatClampNeg; omega
              have hop : Op ((sV (sV τ 109 ((τ.1 71 49).toNatClampNeg) (τ.1 86 z.toNatClampNeg)) 71 49 z1208).1 109) (decide (Int32.toInt (σ.1 86 z.toInt.toNat) = 40) :: o) := by show Op (upd (τ.1 109) (τ.1 71 49).toNatClampNeg (τ.1 86 z.toNatClampNeg)) _; rw [hdn]; exact Op_push ho (by omega) (by omega)
              exact ih (sV (sV τ 109 ((τ.1 71 49).toNatClampNeg) (τ.1 86 z.toNatClampNeg)) 71 49 z1208) (decide (Int32.toInt (σ.1 86 z.toInt.toNat) = 40) :: o) y z1209 (Fr.sV (Fr.sV (Fr.tr Fr.rf (Fr.mo kF (by decide) (by decide))) (Or.inl (by decide))) (Or.inr (by decide))) (by show Int32.toInt z1208 = ((_ :: o : List Bool).length : Int); rw [List.length_cons]; omega) hop (by rw [List.length_cons]; omega) (by omega) (by omega) (fun ⟨f, hf⟩ => hac ⟨f + 1, Or.inr ⟨by omega, Or.inl ⟨by omega, by omega, by omega, (by rw [ek1, show y.toInt.toNat = 0 by omega] at hf; exact hf)⟩⟩⟩) (by omega)
            · refine s_iconst C dX10_conditionFault_234 (by decide) (fun z1211 tz1211 => ?_)
              refine s_iload_n C dX10_conditionFault_235 rfl ?_
              refine s_isub C dX10_conditionFault_236 (by omega) (fun z1212 tz1212 => ?_)
              exact s_iret C X dX10_conditionFault_237 ⟨(Fr.sV (Fr.sV (Fr.tr Fr.rf (Fr.mo kF (by decide) (by decide))) (Or.inl (by decide))) (Or.inr (by decide))), by omega, by omega, fun q => by omega⟩
          · refine s_iload_n C dX10_conditionFault_48 rfl ?_
            exact s_iret C X dX10_conditionFault_49 ⟨(Fr.tr Fr.rf (Fr.mo kF (by decide) (by decide))), by omega, by omega, fun q => by omega⟩
        · refine s_iload_n C dX10_conditionFault_34 rfl ?_
          refine s_bipush C dX10_conditionFault_35 (by decide) (fun z1213 tz1213 => ?_)
          refine s_icmp_ne (tgt := 76) C dX10_conditionFault_37 (by decide) (fun q1214 => ?_) (fun q1214 => ?_)
          · refine s_iload_n C dX10_conditionFault_76 rfl ?_
            refine s_if_ne (tgt := 91) C dX10_conditionFault_77 (by decide) (fun q1215 => ?_) (fun q1215 => ?_)
            · refine s_iload_n C dX10_conditionFault_91 rfl ?_
              refine s_bipush C dX10_conditionFault_92 (by decide) (fun z1216 tz1216 => ?_)
              refine s_icmp_eq (tgt := 103) C dX10_conditionFault_94 (by decide) (fun q1217 => ?_) (fun q1217 => ?_)
              · refine s_iload_n C dX10_conditionFault_103 rfl ?_
                refine s_iconst C dX10_conditionFault_104 (by decide) (fun z1218 tz1218 => ?_)
                refine s_icmp_ge (tgt := 119) C dX10_conditionFault_105 (by decide) (fun q1219 => ?_) (fun q1219 => ?_)
                · refine s_iload_n C dX10_conditionFault_119 rfl ?_
                  refine s_bipush C dX10_conditionFault_120 (by decide) (fun z1220 tz1220 => ?_)
                  refine s_icmp_eq (tgt := 137) C dX10_conditionFault_122 (by decide) (fun q1221 => ?_) (fun q1221 => ?_)
                  · refine s_iload_n C dX10_conditionFault_137 rfl ?_
                    refine s_iconst C dX10_conditionFault_138 (by decide) (fun z1222 tz1222 => ?_)
                    refine s_icmp_ne (tgt := 155) C dX10_conditionFault_139 (by decide) (fun q1223 => ?_) (fun q1223 => ?_)
                    · refine s_iload_n C dX10_conditionFault_155 rfl ?_
                      refine s_bipush C dX10_conditionFault_156 (by decide) (fun z1224 tz1224 => ?_)
                      refine s_icmp_eq (tgt := 167) C dX10_conditionFault_158 (by decide) (fun q1225 => ?_) (fun q1225 => ?_)
                      · refine s_iload_n C dX10_conditionFault_167 rfl ?_
                        refine s_iconst C dX10_conditionFault_168 (by decide) (fun z1226 tz1226 => ?_)
                        refine s_icmp_le (tgt := 184) C dX10_conditionFault_169 (by decide) (fun q1227 => ?_) (fun q1227 => ?_)
                        · refine s_iload_n C dX10_conditionFault_184 rfl ?_
                          refine s_bipush C dX10_conditionFault_185 (by decide) (fun z1228 tz1228 => ?_)
                          refine s_icmp_ne (tgt := 228) C dX10_conditionFault_187 (by decide) (fun q1229 => ?_) (fun q1229 => ?_)
                          · refine s_iload_n C dX10_conditionFault_228 rfl ?_
                            exact s_iret C X dX10_conditionFault_229 ⟨(Fr.tr Fr.rf (Fr.mo kF (by decide) (by decide))), by omega, by omega, fun q => by omega⟩
                          · refine s_iload_n C dX10_conditionFault_190 rfl ?_
                            refine s_iconst C dX10_conditionFault_191 (by decide) (fun z1230 tz1230 => ?_)
                            refine s_icmp_le (tgt := 228) C dX10_conditionFault_192 (by decide) (fun q1231 => ?_) (fun q1231 => ?_)
                            · refine s_iload_n C dX10_conditionFault_228 rfl ?_
                              exact s_iret C X dX10_conditionFault_229 ⟨(Fr.tr Fr.rf (Fr.mo kF (by decide) (by decide))), by omega, by omega, fun q => by omega⟩
                            · refine s_aload_n C dX10_conditionFault_195 rfl ?_
                              refine s_callVI (st := []) C (c_X10_isOpen l ad τ o hd ho (by omega)) cv_X10_269 y71 rfl rfl rfl ⟨by decide, by decide⟩ (Nat.le_of_ble_eq_true rfl) dX10_conditionFault_196 ?_
                              intro r1232 τ1233 h1234
                              obtain ⟨eh1234, h1234⟩ := h1234; replace eh1234 := eh1234.symm; subst eh1234
                              have mh1234 := h1234.2
                              refine s_if_eq (tgt := 228) C dX10_conditionFault_199 (by decide) (fun q1235 => ?_) (fun q1235 => ?_)
                              · refine s_iload_n C dX10_conditionFault_228 rfl ?_
                                exact s_iret C X dX10_conditionFault_229 ⟨(Fr.tr Fr.rf (Fr.mo kF (by decide) (by decide))), by omega, by omega, fun q => by omega⟩
                              · refine s_aload_n C dX10_conditionFault_202 rfl ?_
                                refine s_callVV (st := []) C (c_X10_testEnds l ad τ o hd ho (by omega)) cv_X10_266 y71 rfl rfl rfl ⟨by decide, by decide⟩ (Nat.le_of_ble_eq_true rfl) dX10_conditionFault_203 ?_
                                intro τ1237 h1238
                                have dτ1237 : Int32.toInt (τ1237.1 71 49) = (te o).length := h1238.2
                                have pτ1237 : Op (τ1237.1 109) (te o) := by rw [h1238.1.a 109 (by decide) (by decide)]; exact Op_te o ho
                                have qτ1237 := te_len o
                                obtain ⟨r6, hr6⟩ := te_hd (mh1234.mp (by omega))
                                have hl6 : 1 ≤ (te o).length := by rw [hr6]; simp
                                refine s_aload_n C dX10_conditionFault_206 rfl ?_
                                refine s_dup C dX10_conditionFault_207 rfl ?_
                                refine s_get (k := 49) (x := (τ1237.1 71 49)) C y71 fw_X10_260 rfl rfl dX10_conditionFault_208 ?_
                                refine s_iconst C dX10_conditionFault_211 (by decide) (fun z1239 tz1239 => ?_)
                                refine s_isub C dX10_conditionFault_212 (by omega) (fun z1240 tz1240 => ?_)
                                refine s_put (k := 49) C y71 fw_X10_260 fp_9_49 rfl dX10_conditionFault_213 ?_
                                refine s_aload_n C dX10_conditionFault_216 rfl ?_
                                refine s_callVV (st := []) C (c_X10_testEnds l ad (sV τ1237 71 49 z1240) (te o).tail (by show Int32.toInt z1240 = _; rw [List.length_tail]; omega) (Op_tail _ pτ1237) (by rw [List.length_tail]; omega)) cv_X10_266 y71 rfl rfl rfl ⟨by decide, by decide⟩ (Nat.le_of_ble_eq_true rfl) dX10_conditionFault_217 ?_
                                intro τ1242 h1243
                                have dτ1242 : Int32.toInt (τ1242.1 71 49) = (te (te o).tail).length := h1243.2
                                have pτ1242 : Op (τ1242.1 109) (te (te o).tail) := by rw [h1243.1.a 109 (by decide) (by decide)]; exact Op_te _ (Op_tail _ pτ1237)
                                have qτ1242 := te_len (te o).tail
                                have qqτ1242 : (te o).tail.length = (te o).length - 1 := List.length_tail
                                skip
                                refine s_iconst C dX10_conditionFault_220 (by decide) (fun z1244 tz1244 => ?_)
                                refine s_istore_n C dX10_conditionFault_221 (by decide) (Nat.le_of_ble_eq_true rfl) rfl ?_
                                show WP E ad 222 [some (.ref (ad 71)), some (.int z1244), some (.int z), some (.int (τ.1 86 z.toNatClampNeg))] [] τ1242
                                refine s_iinc C dX10_conditionFault_222 rfl (by decide) rfl (by decide) (by omega) (fun z1245 tz1245 => ?_)
                                show WP E ad 225 [some (.ref (ad 71)), some (.int z1244), some (.int z1245), some (.int (τ.1 86 z.toNatClampNeg))] [] τ1242
                                refine s_goto (tgt := 230) C dX10_conditionFault_225 (by decide) ?_
                                refine s_iload_n C dX10_conditionFault_230 rfl ?_
                                refine s_if_ge (tgt := 238) C dX10_conditionFault_231 (by decide) (fun q1246 => ?_) (fun q1246 => ?_)
                                · refine s_goto (tgt := 9) C dX10_conditionFault_238 (by decide) ?_
                                  refine wp_le (lv' := [some (.ref (ad 71)), some (.int z1244), some (.int z1245), none]) ⟨rfl, ⟨rfl, ⟨rfl, trivial⟩⟩⟩ ?_
                                  have ek1 : z1245.toInt.toNat = z.toInt.toNat + 1 := by omega
                                  exact ih τ1242 (te (te o).tail) z1244 z1245 (Fr.tr (Fr.sV (Fr.tr (Fr.tr Fr.rf (Fr.mo kF (by decide) (by decide))) (Fr.mo h1238.1 (by decide) (by decide))) (Or.inr (by decide))) (Fr.mo h1243.1 (by decide) (by decide))) dτ1242 pτ1242 (by omega) (by omega) (by omega) (fun ⟨f, hf⟩ => hac ⟨f + 1, Or.inr ⟨by omega, Or.inr (Or.inr (Or.inr (Or.inr (Or.inr ⟨by omega, by omega, mh1234.mp (by omega), (by rw [ek1, show z1244.toInt.toNat = 3 by omega] at hf; exact hf)⟩))))⟩⟩) (by omega)
                                · refine s_iconst C dX10_conditionFault_234 (by decide) (fun z1247 tz1247 => ?_)
                                  refine s_iload_n C dX10_conditionFault_235 rfl ?_
                                  refine s_isub C dX10_conditionFault_236 (by omega) (fun z1248 tz1248 => ?_)
                                  exact s_iret C X dX10_conditionFault_237 ⟨(Fr.tr (Fr.sV (Fr.tr (Fr.tr Fr.rf (Fr.mo kF (by decide) (by decide))) (Fr.mo h1238.1 (by decide) (by decide))) (Or.inr (by decide))) (Fr.mo h1243.1 (by decide) (by decide))), by omega, by omega, fun q => by omega⟩
                        · refine s_aload_n C dX10_conditionFault_172 rfl ?_
                          refine s_callVV (st := []) C (c_X10_testEnds l ad τ o hd ho (by omega)) cv_X10_266 y71 rfl rfl rfl ⟨by decide, by decide⟩ (Nat.le_of_ble_eq_true rfl) dX10_conditionFault_173 ?_
                          intro τ1250 h1251
                          have dτ1250 : Int32.toInt (τ1250.1 71 49) = (te o).length := h1251.2
                          have pτ1250 : Op (τ1250.1 109) (te o) := by rw [h1251.1.a 109 (by decide) (by decide)]; exact Op_te o ho
                          have qτ1250 := te_len o
                          skip
                          refine s_iconst C dX10_conditionFault_176 (by decide) (fun z1252 tz1252 => ?_)
                          refine s_istore_n C dX10_conditionFault_177 (by decide) (Nat.le_of_ble_eq_true rfl) rfl ?_
                          show WP E ad 178 [some (.ref (ad 71)), some (.int z1252), some (.int z), some (.int (τ.1 86 z.toNatClampNeg))] [] τ1250
                          refine s_iinc C dX10_conditionFault_178 rfl (by decide) rfl (by decide) (by omega) (fun z1253 tz1253 => ?_)
                          show WP E ad 181 [some (.ref (ad 71)), some (.int z1252), some (.int z1253), some (.int (τ.1 86 z.toNatClampNeg))] [] τ1250
                          refine s_goto (tgt := 230) C dX10_conditionFault_181 (by decide) ?_
                          refine s_iload_n C dX10_conditionFault_230 rfl ?_
                          refine s_if_ge (tgt := 238) C dX10_conditionFault_231 (by decide) (fun q1254 => ?_) (fun q1254 => ?_)
                          · refine s_goto (tgt := 9) C dX10_conditionFault_238 (by decide) ?_
                            refine wp_le (lv' := [some (.ref (ad 71)), some (.int z1252), some (.int z1253), none]) ⟨rfl, ⟨rfl, ⟨rfl, trivial⟩⟩⟩ ?_
                            have ek1 : z1253.toInt.toNat = z.toInt.toNat + 1 := by omega
                            exact ih τ1250 (te o) z1252 z1253 (Fr.tr (Fr.tr Fr.rf (Fr.mo kF (by decide) (by decide))) (Fr.mo h1251.1 (by decide) (by decide))) dτ1250 pτ1250 (by omega) (by omega) (by omega) (fun ⟨f, hf⟩ => hac ⟨f + 1, Or.inr ⟨by omega, Or.inr (Or.inr (Or.inr (Or.inr (Or.inl ⟨by omega, by omega, (by rw [ek1, show z1252.toInt.toNat = 0 by omega] at hf; exact hf)⟩))))⟩⟩) (by omega)
                          · refine s_iconst C dX10_conditionFault_234 (by decide) (fun z1255 tz1255 => ?_)
                            refine s_iload_n C dX10_conditionFault_235 rfl ?_
                            refine s_isub C dX10_conditionFault_236 (by omega) (fun z1256 tz1256 => ?_)
                            exact s_iret C X dX10_conditionFault_237 ⟨(Fr.tr (Fr.tr Fr.rf (Fr.mo kF (by decide) (by decide))) (Fr.mo h1251.1 (by decide) (by decide))), by omega, by omega, fun q => by omega⟩
                      · refine s_iload_n C dX10_conditionFault_161 rfl ?_
                        refine s_bipush C dX10_conditionFault_162 (by decide) (fun z1257 tz1257 => ?_)
                        refine s_icmp_ne (tgt := 184) C dX10_conditionFault_164 (by decide) (fun q1258 => ?_) (fun q1258 => ?_)
                        · refine s_iload_n C dX10_conditionFault_184 rfl ?_
                          refine s_bipush C dX10_conditionFault_185 (by decide) (fun z1259 tz1259 => ?_)
                          refine s_icmp_ne (tgt := 228) C dX10_conditionFault_187 (by decide) (fun q1260 => ?_) (fun q1260 => ?_)
                          · refine s_iload_n C dX10_conditionFault_228 rfl ?_
                            exact s_iret C X dX10_conditionFault_229 ⟨(Fr.tr Fr.rf (Fr.mo kF (by decide) (by decide))), by omega, by omega, fun q => by omega⟩
                          · refine s_iload_n C dX10_conditionFault_190 rfl ?_
                            refine s_iconst C dX10_conditionFault_191 (by decide) (fun z1261 tz1261 => ?_)
                            refine s_icmp_le (tgt := 228) C dX10_conditionFault_192 (by decide) (fun q1262 => ?_) (fun q1262 => ?_)
                            · refine s_iload_n C dX10_conditionFault_228 rfl ?_
                              exact s_iret C X dX10_conditionFault_229 ⟨(Fr.tr Fr.rf (Fr.mo kF (by decide) (by decide))), by omega, by omega, fun q => by omega⟩
                            · refine s_aload_n C dX10_conditionFault_195 rfl ?_
                              refine s_callVI (st := []) C (c_X10_isOpen l ad τ o hd ho (by omega)) cv_X10_269 y71 rfl rfl rfl ⟨by decide, by decide⟩ (Nat.le_of_ble_eq_true rfl) dX10_conditionFault_196 ?_
                              intro r1263 τ1264 h1265
                              obtain ⟨eh1265, h1265⟩ := h1265; replace eh1265 := eh1265.symm; subst eh1265
                              have mh1265 := h1265.2
                              refine s_if_eq (tgt := 228) C dX10_conditionFault_199 (by decide) (fun q1266 => ?_) (fun q1266 => ?_)
                              · refine s_iload_n C dX10_conditionFault_228 rfl ?_
                                exact s_iret C X dX10_conditionFault_229 ⟨(Fr.tr Fr.rf (Fr.mo kF (by decide) (by decide))), by omega, by omega, fun q => by omega⟩
                              · refine s_aload_n C dX10_conditionFault_202 rfl ?_
                                refine s_callVV (st := []) C (c_X10_testEnds l ad τ o hd ho (by omega)) cv_X10_266 y71 rfl rfl rfl ⟨by decide, by decide⟩ (Nat.le_of_ble_eq_true rfl) dX10_conditionFault_203 ?_
                                intro τ1268 h1269
                                have dτ1268 : Int32.toInt (τ1268.1 71 49) = (te o).length := h1269.2
                                have pτ1268 : Op (τ1268.1 109) (te o) := by rw [h1269.1.a 109 (by decide) (by decide)]; exact Op_te o ho
                                have qτ1268 := te_len o
                                obtain ⟨r6, hr6⟩ := te_hd (mh1265.mp (by omega))
                                have hl6 : 1 ≤ (te o).length := by rw [hr6]; simp
                                refine s_aload_n C dX10_conditionFault_206 rfl ?_
                                refine s_dup C dX10_conditionFault_207 rfl ?_
                                refine s_get (k := 49) (x := (τ1268.1 71 49)) C y71 fw_X10_260 rfl rfl dX10_conditionFault_208 ?_
                                refine s_iconst C dX10_conditionFault_211 (by decide) (fun z1270 tz1270 => ?_)
                                refine s_isub C dX10_conditionFault_212 (by omega) (fun z1271 tz1271 => ?_)
                                refine s_put (k := 49) C y71 fw_X10_260 fp_9_49 rfl dX10_conditionFault_213 ?_
                                refine s_aload_n C dX10_conditionFault_216 rfl ?_
                                refine s_callVV (st := []) C (c_X10_testEnds l ad (sV τ1268 71 49 z1271) (te o).tail (by show Int32.toInt z1271 = _; rw [List.length_tail]; omega) (Op_tail _ pτ1268) (by rw [List.length_tail]; omega)) cv_X10_266 y71 rfl rfl rfl ⟨by decide, by decide⟩ (Nat.le_of_ble_eq_true rfl) dX10_conditionFault_217 ?_
                                intro τ1273 h1274
                                have dτ1273 : Int32.toInt (τ1273.1 71 49) = (te (te o).tail).length := h1274.2
                                have pτ1273 : Op (τ1273.1 109) (te (te o).tail) := by rw [h1274.1.a 109 (by decide) (by decide)]; exact Op_te _ (Op_tail _ pτ1268)
                                have qτ1273 := te_len (te o).tail
                                have qqτ1273 : (te o).tail.length = (te o).length - 1 := List.length_tail
                                skip
                                refine s_iconst C dX10_conditionFault_220 (by decide) (fun z1275 tz1275 => ?_)
                                refine s_istore_n C dX10_conditionFault_221 (by decide) (Nat.le_of_ble_eq_true rfl) rfl ?_
                                show WP E ad 222 [some (.ref (ad 71)), some (.int z1275), some (.int z), some (.int (τ.1 86 z.toNatClampNeg))] [] τ1273
                                refine s_iinc C dX10_conditionFault_222 rfl (by decide) rfl (by decide) (by omega) (fun z1276 tz1276 => ?_)
                                show WP E ad 225 [some (.ref (ad 71)), some (.int z1275), some (.int z1276), some (.int (τ.1 86 z.toNatClampNeg))] [] τ1273
                                refine s_goto (tgt := 230) C dX10_conditionFault_225 (by decide) ?_
                                refine s_iload_n C dX10_conditionFault_230 rfl ?_
                                refine s_if_ge (tgt := 238) C dX10_conditionFault_231 (by decide) (fun q1277 => ?_) (fun q1277 => ?_)
                                · refine s_goto (tgt := 9) C dX10_conditionFault_238 (by decide) ?_
                                  refine wp_le (lv' := [some (.ref (ad 71)), some (.int z1275), some (.int z1276), none]) ⟨rfl, ⟨rfl, ⟨rfl, trivial⟩⟩⟩ ?_
                                  have ek1 : z1276.toInt.toNat = z.toInt.toNat + 1 := by omega
                                  exact ih τ1273 (te (te o).tail) z1275 z1276 (Fr.tr (Fr.sV (Fr.tr (Fr.tr Fr.rf (Fr.mo kF (by decide) (by decide))) (Fr.mo h1269.1 (by decide) (by decide))) (Or.inr (by decide))) (Fr.mo h1274.1 (by decide) (by decide))) dτ1273 pτ1273 (by omega) (by omega) (by omega) (fun ⟨f, hf⟩ => hac ⟨f + 1, Or.inr ⟨by omega, Or.inr (Or.inr (Or.inr (Or.inr (Or.inr ⟨by omega, by omega, mh1265.mp (by omega), (by rw [ek1, show z1275.toInt.toNat = 3 by omega] at hf; exact hf)⟩))))⟩⟩) (by omega)
                                · refine s_iconst C dX10_conditionFault_234 (by decide) (fun z1278 tz1278 => ?_)
                                  refine s_iload_n C dX10_conditionFault_235 rfl ?_
                                  refine s_isub C dX10_conditionFault_236 (by omega) (fun z1279 tz1279 => ?_)
                                  exact s_iret C X dX10_conditionFault_237 ⟨(Fr.tr (Fr.sV (Fr.tr (Fr.tr Fr.rf (Fr.mo kF (by decide) (by decide))) (Fr.mo h1269.1 (by decide) (by decide))) (Or.inr (by decide))) (Fr.mo h1274.1 (by decide) (by decide))), by omega, by omega, fun q => by omega⟩
                        · refine s_iload_n C dX10_conditionFault_167 rfl ?_
                          refine s_iconst C dX10_conditionFault_168 (by decide) (fun z1280 tz1280 => ?_)
                          refine s_icmp_le (tgt := 184) C dX10_conditionFault_169 (by decide) (fun q1281 => ?_) (fun q1281 => ?_)
                          · refine s_iload_n C dX10_conditionFault_184 rfl ?_
                            refine s_bipush C dX10_conditionFault_185 (by decide) (fun z1282 tz1282 => ?_)
                            refine s_icmp_ne (tgt := 228) C dX10_conditionFault_187 (by decide) (fun q1283 => ?_) (fun q1283 => ?_)
                            · refine s_iload_n C dX10_conditionFault_228 rfl ?_
                              exact s_iret C X dX10_conditionFault_229 ⟨(Fr.tr Fr.rf (Fr.mo kF (by decide) (by decide))), by omega, by omega, fun q => by omega⟩
                            · refine s_iload_n C dX10_conditionFault_190 rfl ?_
                              refine s_iconst C dX10_conditionFault_191 (by decide) (fun z1284 tz1284 => ?_)
                              refine s_icmp_le (tgt := 228) C dX10_conditionFault_192 (by decide) (fun q1285 => ?_) (fun q1285 => ?_)
                              · refine s_iload_n C dX10_conditionFault_228 rfl ?_
                                exact s_iret C X dX10_conditionFault_229 ⟨(Fr.tr Fr.rf (Fr.mo kF (by decide) (by decide))), by omega, by omega, fun q => by omega⟩
                              · refine s_aload_n C dX10_conditionFault_195 rfl ?_
                                refine s_callVI (st := []) C (c_X10_isOpen l ad τ o hd ho (by omega)) cv_X10_269 y71 rfl rfl rfl ⟨by decide, by decide⟩ (Nat.le_of_ble_eq_true rfl) dX10_conditionFault_196 ?_
                                intro r1286 τ1287 h1288
                                obtain ⟨eh1288, h1288⟩ := h1288; replace eh1288 := eh1288.symm; subst eh1288
                                have mh1288 := h1288.2
                                refine s_if_eq (tgt := 228) C dX10_conditionFault_199 (by decide) (fun q1289 => ?_) (fun q1289 => ?_)
                                · refine s_iload_n C dX10_conditionFault_228 rfl ?_
                                  exact s_iret C X dX10_conditionFault_229 ⟨(Fr.tr Fr.rf (Fr.mo kF (by decide) (by decide))), by omega, by omega, fun q => by omega⟩
                                · refine s_aload_n C dX10_conditionFault_202 rfl ?_
                                  refine s_callVV (st := []) C (c_X10_testEnds l ad τ o hd ho (by omega)) cv_X10_266 y71 rfl rfl rfl ⟨by decide, by decide⟩ (Nat.le_of_ble_eq_true rfl) dX10_conditionFault_203 ?_
                                  intro τ1291 h1292
                                  have dτ1291 : Int32.toInt (τ1291.1 71 49) = (te o).length := h1292.2
                                  have pτ1291 : Op (τ1291.1 109) (te o) := by rw [h1292.1.a 109 (by decide) (by decide)]; exact Op_te o ho
                                  have qτ1291 := te_len o
                                  obtain ⟨r6, hr6⟩ := te_hd (mh1288.mp (by omega))
                                  have hl6 : 1 ≤ (te o).length := by rw [hr6]; simp
                                  refine s_aload_n C dX10_conditionFault_206 rfl ?_
                                  refine s_dup C dX10_conditionFault_207 rfl ?_
                                  refine s_get (k := 49) (x := (τ1291.1 71 49)) C y71 fw_X10_260 rfl rfl dX10_conditionFault_208 ?_
                                  refine s_iconst C dX10_conditionFault_211 (by decide) (fun z1293 tz1293 => ?_)
                                  refine s_isub C dX10_conditionFault_212 (by omega) (fun z1294 tz1294 => ?_)
                                  refine s_put (k := 49) C y71 fw_X10_260 fp_9_49 rfl dX10_conditionFault_213 ?_
                                  refine s_aload_n C dX10_conditionFault_216 rfl ?_
                                  refine s_callVV (st := []) C (c_X10_testEnds l ad (sV τ1291 71 49 z1294) (te o).tail (by show Int32.toInt z1294 = _; rw [List.length_tail]; omega) (Op_tail _ pτ1291) (by rw [List.length_tail]; omega)) cv_X10_266 y71 rfl rfl rfl ⟨by decide, by decide⟩ (Nat.le_of_ble_eq_true rfl) dX10_conditionFault_217 ?_
                                  intro τ1296 h1297
                                  have dτ1296 : Int32.toInt (τ1296.1 71 49) = (te (te o).tail).length := h1297.2
                                  have pτ1296 : Op (τ1296.1 109) (te (te o).tail) := by rw [h1297.1.a 109 (by decide) (by decide)]; exact Op_te _ (Op_tail _ pτ1291)
                                  have qτ1296 := te_len (te o).tail
                                  have qqτ1296 : (te o).tail.length = (te o).length - 1 := List.length_tail
                                  skip
                                  refine s_iconst C dX10_conditionFault_220 (by decide) (fun z1298 tz1298 => ?_)
                                  refine s_istore_n C dX10_conditionFault_221 (by decide) (Nat.le_of_ble_eq_true rfl) rfl ?_
                                  show WP E ad 222 [some (.ref (ad 71)), some (.int z1298), some (.int z), some (.int (τ.1 86 z.toNatClampNeg))] [] τ1296
                                  refine s_iinc C dX10_conditionFault_222 rfl (by decide) rfl (by decide) (by omega) (fun z1299 tz1299 => ?_)
                                  show WP E ad 225 [some (.ref (ad 71)), some (.int z1298), some (.int z1299), some (.int (τ.1 86 z.toNatClampNeg))] [] τ1296
                                  refine s_goto (tgt := 230) C dX10_conditionFault_225 (by decide) ?_
                                  refine s_iload_n C dX10_conditionFault_230 rfl ?_
                                  refine s_if_ge (tgt := 238) C dX10_conditionFault_231 (by decide) (fun q1300 => ?_) (fun q1300 => ?_)
                                  · refine s_goto (tgt := 9) C dX10_conditionFault_238 (by decide) ?_
                                    refine wp_le (lv' := [some (.ref (ad 71)), some (.int z1298), some (.int z1299), none]) ⟨rfl, ⟨rfl, ⟨rfl, trivial⟩⟩⟩ ?_
                                    have ek1 : z1299.toInt.toNat = z.toInt.toNat + 1 := by omega
                                    exact ih τ1296 (te (te o).tail) z1298 z1299 (Fr.tr (Fr.sV (Fr.tr (Fr.tr Fr.rf (Fr.mo kF (by decide) (by decide))) (Fr.mo h1292.1 (by decide) (by decide))) (Or.inr (by decide))) (Fr.mo h1297.1 (by decide) (by decide))) dτ1296 pτ1296 (by omega) (by omega) (by omega) (fun ⟨f, hf⟩ => hac ⟨f + 1, Or.inr ⟨by omega, Or.inr (Or.inr (Or.inr (Or.inr (Or.inr ⟨by omega, by omega, mh1288.mp (by omega), (by rw [ek1, show z1298.toInt.toNat = 3 by omega] at hf; exact hf)⟩))))⟩⟩) (by omega)
                                  · refine s_iconst C dX10_conditionFault_234 (by decide) (fun z1301 tz1301 => ?_)
                                    refine s_iload_n C dX10_conditionFault_235 rfl ?_
                                    refine s_isub C dX10_conditionFault_236 (by omega) (fun z1302 tz1302 => ?_)
                                    exact s_iret C X dX10_conditionFault_237 ⟨(Fr.tr (Fr.sV (Fr.tr (Fr.tr Fr.rf (Fr.mo kF (by decide) (by decide))) (Fr.mo h1292.1 (by decide) (by decide))) (Or.inr (by decide))) (Fr.mo h1297.1 (by decide) (by decide))), by omega, by omega, fun q => by omega⟩
                          · refine s_aload_n C dX10_conditionFault_172 rfl ?_
                            refine s_callVV (st := []) C (c_X10_testEnds l ad τ o hd ho (by omega)) cv_X10_266 y71 rfl rfl rfl ⟨by decide, by decide⟩ (Nat.le_of_ble_eq_true rfl) dX10_conditionFault_173 ?_
                            intro τ1304 h1305
                            have dτ1304 : Int32.toInt (τ1304.1 71 49) = (te o).length := h1305.2
                            have pτ1304 : Op (τ1304.1 109) (te o) := by rw [h1305.1.a 109 (by decide) (by decide)]; exact Op_te o ho
                            have qτ1304 := te_len o
                            skip
                            refine s_iconst C dX10_conditionFault_176 (by decide) (fun z1306 tz1306 => ?_)
                            refine s_istore_n C dX10_conditionFault_177 (by decide) (Nat.le_of_ble_eq_true rfl) rfl ?_
                            show WP E ad 178 [some (.ref (ad 71)), some (.int z1306), some (.int z), some (.int (τ.1 86 z.toNatClampNeg))] [] τ1304
                            refine s_iinc C dX10_conditionFault_178 rfl (by decide) rfl (by decide) (by omega) (fun z1307 tz1307 => ?_)
                            show WP E ad 181 [some (.ref (ad 71)), some (.int z1306), some (.int z1307), some (.int (τ.1 86 z.toNatClampNeg))] [] τ1304
                            refine s_goto (tgt := 230) C dX10_conditionFault_181 (by decide) ?_
                            refine s_iload_n C dX10_conditionFault_230 rfl ?_
                            refine s_if_ge (tgt := 238) C dX10_conditionFault_231 (by decide) (fun q1308 => ?_) (fun q1308 => ?_)
                            · refine s_goto (tgt := 9) C dX10_conditionFault_238 (by decide) ?_
                              refine wp_le (lv' := [some (.ref (ad 71)), some (.int z1306), some (.int z1307), none]) ⟨rfl, ⟨rfl, ⟨rfl, trivial⟩⟩⟩ ?_
                              have ek1 : z1307.toInt.toNat = z.toInt.toNat + 1 := by omega
                              exact ih τ1304 (te o) z1306 z1307 (Fr.tr (Fr.tr Fr.rf (Fr.mo kF (by decide) (by decide))) (Fr.mo h1305.1 (by decide) (by decide))) dτ1304 pτ1304 (by omega) (by omega) (by omega) (fun ⟨f, hf⟩ => hac ⟨f + 1, Or.inr ⟨by omega, Or.inr (Or.inr (Or.inr (Or.inr (Or.inl ⟨by omega, by omega, (by rw [ek1, show z1306.toInt.toNat = 0 by omega] at hf; exact hf)⟩))))⟩⟩) (by omega)
                            · refine s_iconst C dX10_conditionFault_234 (by decide) (fun z1309 tz1309 => ?_)
                              refine s_iload_n C dX10_conditionFault_235 rfl ?_
                              refine s_isub C dX10_conditionFault_236 (by omega) (fun z1310 tz1310 => ?_)
                              exact s_iret C X dX10_conditionFault_237 ⟨(Fr.tr (Fr.tr Fr.rf (Fr.mo kF (by decide) (by decide))) (Fr.mo h1305.1 (by decide) (by decide))), by omega, by omega, fun q => by omega⟩
                    · refine s_aload_n C dX10_conditionFault_142 rfl ?_
                      refine s_iload_n C dX10_conditionFault_143 rfl ?_
                      refine s_iconst C dX10_conditionFault_144 (by decide) (fun z1311 tz1311 => ?_)
                      refine s_iadd C dX10_conditionFault_145 (by omega) (fun z1312 tz1312 => ?_)
                      refine s_callVI (st := []) C (c_X10_behindUnit l ad τ z1312 (by omega) (by omega) (by omega)) cv_X10_263 y71 rfl rfl rfl ⟨by decide, by decide⟩ (Nat.le_of_ble_eq_true rfl) dX10_conditionFault_146 ?_
                      intro r1313 τ1314 h1315
                      obtain ⟨eh1315, h1315⟩ := h1315; replace eh1315 := eh1315.symm; subst eh1315
                      have uh1315 := h1315.2.2
                      rw [f0, f17, e86] at uh1315
                      have vh1315 : 0 ≤ Int32.toInt r1313 → Int32.toInt r1313 ≤ Int32.toInt (σ.1 71 17) := fun q => by have := un_le (uh1315 q).2; omega
                      skip
                      refine s_istore_n C dX10_conditionFault_149 (by decide) (Nat.le_of_ble_eq_true rfl) rfl ?_
                      show WP E ad 150 [some (.ref (ad 71)), some (.int y), some (.int r1313), some (.int (τ.1 86 z.toNatClampNeg))] [] τ
                      refine s_iconst C dX10_conditionFault_150 (by decide) (fun z1316 tz1316 => ?_)
                      refine s_istore_n C dX10_conditionFault_151 (by decide) (Nat.le_of_ble_eq_true rfl) rfl ?_
                      show WP E ad 152 [some (.ref (ad 71)), some (.int z1316), some (.int r1313), some (.int (τ.1 86 z.toNatClampNeg))] [] τ
                      refine s_goto (tgt := 230) C dX10_conditionFault_152 (by decide) ?_
                      refine s_iload_n C dX10_conditionFault_230 rfl ?_
                      refine s_if_ge (tgt := 238) C dX10_conditionFault_231 (by decide) (fun q1317 => ?_) (fun q1317 => ?_)
                      · refine s_goto (tgt := 9) C dX10_conditionFault_238 (by decide) ?_
                        refine wp_le (lv' := [some (.ref (ad 71)), some (.int z1316), some (.int r1313), none]) ⟨rfl, ⟨rfl, ⟨rfl, trivial⟩⟩⟩ ?_
                        have ez1 : z1312.toInt.toNat = z.toInt.toNat + 1 := by omega
                        rw [ez1] at uh1315
                        exact ih τ o z1316 r1313 (Fr.tr Fr.rf (Fr.mo kF (by decide) (by decide))) hd ho (by omega) (by omega) (by omega) (fun ⟨f, hf⟩ => hac ⟨f + 1, Or.inr ⟨by omega, Or.inr (Or.inr (Or.inr (Or.inl ⟨by omega, by omega, _, (uh1315 (by omega)).2, (by rw [show z1316.toInt.toNat = 2 by omega] at hf; exact hf)⟩)))⟩⟩) (by omega)
                      · refine s_iconst C dX10_conditionFault_234 (by decide) (fun z1318 tz1318 => ?_)
                        refine s_iload_n C dX10_conditionFault_235 rfl ?_
                        refine s_isub C dX10_conditionFault_236 (by omega) (fun z1319 tz1319 => ?_)
                        exact s_iret C X dX10_conditionFault_237 ⟨(Fr.tr Fr.rf (Fr.mo kF (by decide) (by decide))), by omega, by omega, fun q => by omega⟩
                  · refine s_iload_n C dX10_conditionFault_125 rfl ?_
                    refine s_bipush C dX10_conditionFault_126 (by decide) (fun z1320 tz1320 => ?_)
                    refine s_icmp_eq (tgt := 137) C dX10_conditionFault_128 (by decide) (fun q1321 => ?_) (fun q1321 => ?_)
                    · refine s_iload_n C dX10_conditionFault_137 rfl ?_
                      refine s_iconst C dX10_conditionFault_138 (by decide) (fun z1322 tz1322 => ?_)
                      refine s_icmp_ne (tgt := 155) C dX10_conditionFault_139 (by decide) (fun q1323 => ?_) (fun q1323 => ?_)
                      · refine s_iload_n C dX10_conditionFault_155 rfl ?_
                        refine s_bipush C dX10_conditionFault_156 (by decide) (fun z1324 tz1324 => ?_)
                        refine s_icmp_eq (tgt := 167) C dX10_conditionFault_158 (by decide) (fun q1325 => ?_) (fun q1325 => ?_)
                        · refine s_iload_n C dX10_conditionFault_167 rfl ?_
                          refine s_iconst C dX10_conditionFault_168 (by decide) (fun z1326 tz1326 => ?_)
                          refine s_icmp_le (tgt := 184) C dX10_conditionFault_169 (by decide) (fun q1327 => ?_) (fun q1327 => ?_)
                          · refine s_iload_n C dX10_conditionFault_184 rfl ?_
                            refine s_bipush C dX10_conditionFault_185 (by decide) (fun z1328 tz1328 => ?_)
                            refine s_icmp_ne (tgt := 228) C dX10_conditionFault_187 (by decide) (fun q1329 => ?_) (fun q1329 => ?_)
                            · refine s_iload_n C dX10_conditionFault_228 rfl ?_
                              exact s_iret C X dX10_conditionFault_229 ⟨(Fr.tr Fr.rf (Fr.mo kF (by decide) (by decide))), by omega, by omega, fun q => by omega⟩
                            · refine s_iload_n C dX10_conditionFault_190 rfl ?_
                              refine s_iconst C dX10_conditionFault_191 (by decide) (fun z1330 tz1330 => ?_)
                              refine s_icmp_le (tgt := 228) C dX10_conditionFault_192 (by decide) (fun q1331 => ?_) (fun q1331 => ?_)
                              · refine s_iload_n C dX10_conditionFault_228 rfl ?_
                                exact s_iret C X dX10_conditionFault_229 ⟨(Fr.tr Fr.rf (Fr.mo kF (by decide) (by decide))), by omega, by omega, fun q => by omega⟩
                              · refine s_aload_n C dX10_conditionFault_195 rfl ?_
                                refine s_callVI (st := []) C (c_X10_isOpen l ad τ o hd ho (by omega)) cv_X10_269 y71 rfl rfl rfl ⟨by decide, by decide⟩ (Nat.le_of_ble_eq_true rfl) dX10_conditionFault_196 ?_
                                intro r1332 τ1333 h1334
                                obtain ⟨eh1334, h1334⟩ := h1334; replace eh1334 := eh1334.symm; subst eh1334
                                have mh1334 := h1334.2
                                refine s_if_eq (tgt := 228) C dX10_conditionFault_199 (by decide) (fun q1335 => ?_) (fun q1335 => ?_)
                                · refine s_iload_n C dX10_conditionFault_228 rfl ?_
                                  exact s_iret C X dX10_conditionFault_229 ⟨(Fr.tr Fr.rf (Fr.mo kF (by decide) (by decide))), by omega, by omega, fun q => by omega⟩
                                · refine s_aload_n C dX10_conditionFault_202 rfl ?_
                                  refine s_callVV (st := []) C (c_X10_testEnds l ad τ o hd ho (by omega)) cv_X10_266 y71 rfl rfl rfl ⟨by decide, by decide⟩ (Nat.le_of_ble_eq_true rfl) dX10_conditionFault_203 ?_
                                  intro τ1337 h1338
                                  have dτ1337 : Int32.toInt (τ1337.1 71 49) = (te o).length := h1338.2
                                  have pτ1337 : Op (τ1337.1 109) (te o) := by rw [h1338.1.a 109 (by decide) (by decide)]; exact Op_te o ho
                                  have qτ1337 := te_len o
                                  obtain ⟨r6, hr6⟩ := te_hd (mh1334.mp (by omega))
                                  have hl6 : 1 ≤ (te o).length := by rw [hr6]; simp
                                  refine s_aload_n C dX10_conditionFault_206 rfl ?_
                                  refine s_dup C dX10_conditionFault_207 rfl ?_
                                  refine s_get (k := 49) (x := (τ1337.1 71 49)) C y71 fw_X10_260 rfl rfl dX10_conditionFault_208 ?_
                                  refine s_iconst C dX10_conditionFault_211 (by decide) (fun z1339 tz1339 => ?_)
                                  refine s_isub C dX10_conditionFault_212 (by omega) (fun z1340 tz1340 => ?_)
                                  refine s_put (k := 49) C y71 fw_X10_260 fp_9_49 rfl dX10_conditionFault_213 ?_
                                  refine s_aload_n C dX10_conditionFault_216 rfl ?_
                                  refine s_callVV (st := []) C (c_X10_testEnds l ad (sV τ1337 71 49 z1340) (te o).tail (by show Int32.toInt z1340 = _; rw [List.length_tail]; omega) (Op_tail _ pτ1337) (by rw [List.length_tail]; omega)) cv_X10_266 y71 rfl rfl rfl ⟨by decide, by decide⟩ (Nat.le_of_ble_eq_true rfl) dX10_conditionFault_217 ?_
                                  intro τ1342 h1343
                                  have dτ1342 : Int32.toInt (τ1342.1 71 49) = (te (te o).tail).length := h1343.2
                                  have pτ1342 : Op (τ1342.1 109) (te (te o).tail) := by rw [h1343.1.a 109 (by decide) (by decide)]; exact Op_te _ (Op_tail _ pτ1337)
                                  have qτ1342 := te_len (te o).tail
                                  have qqτ1342 : (te o).tail.length = (te o).length - 1 := List.length_tail
                                  skip
                                  refine s_iconst C dX10_conditionFault_220 (by decide) (fun z1344 tz1344 => ?_)
                                  refine s_istore_n C dX10_conditionFault_221 (by decide) (Nat.le_of_ble_eq_true rfl) rfl ?_
                                  show WP E ad 222 [some (.ref (ad 71)), some (.int z1344), some (.int z), some (.int (τ.1 86 z.toNatClampNeg))] [] τ1342
                                  refine s_iinc C dX10_conditionFault_222 rfl (by decide) rfl (by decide) (by omega) (fun z1345 tz1345 => ?_)
                                  show WP E ad 225 [some (.ref (ad 71)), some (.int z1344), some (.int z1345), some (.int (τ.1 86 z.toNatClampNeg))] [] τ1342
                                  refine s_goto (tgt := 230) C dX10_conditionFault_225 (by decide) ?_
                                  refine s_iload_n C dX10_conditionFault_230 rfl ?_
                                  refine s_if_ge (tgt := 238) C dX10_conditionFault_231 (by decide) (fun q1346 => ?_) (fun q1346 => ?_)
                                  · refine s_goto (tgt := 9) C dX10_conditionFault_238 (by decide) ?_
                                    refine wp_le (lv' := [some (.ref (ad 71)), some (.int z1344), some (.int z1345), none]) ⟨rfl, ⟨rfl, ⟨rfl, trivial⟩⟩⟩ ?_
                                    have ek1 : z1345.toInt.toNat = z.toInt.toNat + 1 := by omega
                                    exact ih τ1342 (te (te o).tail) z1344 z1345 (Fr.tr (Fr.sV (Fr.tr (Fr.tr Fr.rf (Fr.mo kF (by decide) (by decide))) (Fr.mo h1338.1 (by decide) (by decide))) (Or.inr (by decide))) (Fr.mo h1343.1 (by decide) (by decide))) dτ1342 pτ1342 (by omega) (by omega) (by omega) (fun ⟨f, hf⟩ => hac ⟨f + 1, Or.inr ⟨by omega, Or.inr (Or.inr (Or.inr (Or.inr (Or.inr ⟨by omega, by omega, mh1334.mp (by omega), (by rw [ek1, show z1344.toInt.toNat = 3 by omega] at hf; exact hf)⟩))))⟩⟩) (by omega)
                                  · refine s_iconst C dX10_conditionFault_234 (by decide) (fun z1347 tz1347 => ?_)
                                    refine s_iload_n C dX10_conditionFault_235 rfl ?_
                                    refine s_isub C dX10_conditionFault_236 (by omega) (fun z1348 tz1348 => ?_)
                                    exact s_iret C X dX10_conditionFault_237 ⟨(Fr.tr (Fr.sV (Fr.tr (Fr.tr Fr.rf (Fr.mo kF (by decide) (by decide))) (Fr.mo h1338.1 (by decide) (by decide))) (Or.inr (by decide))) (Fr.mo h1343.1 (by decide) (by decide))), by omega, by omega, fun q => by omega⟩
                          · refine s_aload_n C dX10_conditionFault_172 rfl ?_
                            refine s_callVV (st := []) C (c_X10_testEnds l ad τ o hd ho (by omega)) cv_X10_266 y71 rfl rfl rfl ⟨by decide, by decide⟩ (Nat.le_of_ble_eq_true rfl) dX10_conditionFault_173 ?_
                            intro τ1350 h1351
                            have dτ1350 : Int32.toInt (τ1350.1 71 49) = (te o).length := h1351.2
                            have pτ1350 : Op (τ1350.1 109) (te o) := by rw [h1351.1.a 109 (by decide) (by decide)]; exact Op_te o ho
                            have qτ1350 := te_len o
                            skip
                            refine s_iconst C dX10_conditionFault_176 (by decide) (fun z1352 tz1352 => ?_)
                            refine s_istore_n C dX10_conditionFault_177 (by decide) (Nat.le_of_ble_eq_true rfl) rfl ?_
                            show WP E ad 178 [some (.ref (ad 71)), some (.int z1352), some (.int z), some (.int (τ.1 86 z.toNatClampNeg))] [] τ1350
                            refine s_iinc C dX10_conditionFault_178 rfl (by decide) rfl (by decide) (by omega) (fun z1353 tz1353 => ?_)
                            show WP E ad 181 [some (.ref (ad 71)), some (.int z1352), some (.int z1353), some (.int (τ.1 86 z.toNatClampNeg))] [] τ1350
                            refine s_goto (tgt := 230) C dX10_conditionFault_181 (by decide) ?_
                            refine s_iload_n C dX10_conditionFault_230 rfl ?_
                            refine s_if_ge (tgt := 238) C dX10_conditionFault_231 (by decide) (fun q1354 => ?_) (fun q1354 => ?_)
                            · refine s_goto (tgt := 9) C dX10_conditionFault_238 (by decide) ?_
                              refine wp_le (lv' := [some (.ref (ad 71)), some (.int z1352), some (.int z1353), none]) ⟨rfl, ⟨rfl, ⟨rfl, trivial⟩⟩⟩ ?_
                              have ek1 : z1353.toInt.toNat = z.toInt.toNat + 1 := by omega
                              exact ih τ1350 (te o) z1352 z1353 (Fr.tr (Fr.tr Fr.rf (Fr.mo kF (by decide) (by decide))) (Fr.mo h1351.1 (by decide) (by decide))) dτ1350 pτ1350 (by omega) (by omega) (by omega) (fun ⟨f, hf⟩ => hac ⟨f + 1, Or.inr ⟨by omega, Or.inr (Or.inr (Or.inr (Or.inr (Or.inl ⟨by omega, by omega, (by rw [ek1, show z1352.toInt.toNat = 0 by omega] at hf; exact hf)⟩))))⟩⟩) (by omega)
                            · refine s_iconst C dX10_conditionFault_234 (by decide) (fun z1355 tz1355 => ?_)
                              refine s_iload_n C dX10_conditionFault_235 rfl ?_
                              refine s_isub C dX10_conditionFault_236 (by omega) (fun z1356 tz1356 => ?_)
                              exact s_iret C X dX10_conditionFault_237 ⟨(Fr.tr (Fr.tr Fr.rf (Fr.mo kF (by decide) (by decide))) (Fr.mo h1351.1 (by decide) (by decide))), by omega, by omega, fun q => by omega⟩
                        · refine s_iload_n C dX10_conditionFault_161 rfl ?_
                          refine s_bipush C dX10_conditionFault_162 (by decide) (fun z1357 tz1357 => ?_)
                          refine s_icmp_ne (tgt := 184) C dX10_conditionFault_164 (by decide) (fun q1358 => ?_) (fun q1358 => ?_)
                          · refine s_iload_n C dX10_conditionFault_184 rfl ?_
                            refine s_bipush C dX10_conditionFault_185 (by decide) (fun z1359 tz1359 => ?_)
                            refine s_icmp_ne (tgt := 228) C dX10_conditionFault_187 (by decide) (fun q1360 => ?_) (fun q1360 => ?_)
                            · refine s_iload_n C dX10_conditionFault_228 rfl ?_
                              exact s_iret C X dX10_conditionFault_229 ⟨(Fr.tr Fr.rf (Fr.mo kF (by decide) (by decide))), by omega, by omega, fun q => by omega⟩
                            · refine s_iload_n C dX10_conditionFault_190 rfl ?_
                              refine s_iconst C dX10_conditionFault_191 (by decide) (fun z1361 tz1361 => ?_)
                              refine s_icmp_le (tgt := 228) C dX10_conditionFault_192 (by decide) (fun q1362 => ?_) (fun q1362 => ?_)
                              · refine s_iload_n C dX10_conditionFault_228 rfl ?_
                                exact s_iret C X dX10_conditionFault_229 ⟨(Fr.tr Fr.rf (Fr.mo kF (by decide) (by decide))), by omega, by omega, fun q => by omega⟩
                              · refine s_aload_n C dX10_conditionFault_195 rfl ?_
                                refine s_callVI (st := []) C (c_X10_isOpen l ad τ o hd ho (by omega)) cv_X10_269 y71 rfl rfl rfl ⟨by decide, by decide⟩ (Nat.le_of_ble_eq_true rfl) dX10_conditionFault_196 ?_
                                intro r1363 τ1364 h1365
                                obtain ⟨eh1365, h1365⟩ := h1365; replace eh1365 := eh1365.symm; subst eh1365
                                have mh1365 := h1365.2
                                refine s_if_eq (tgt := 228) C dX10_conditionFault_199 (by decide) (fun q1366 => ?_) (fun q1366 => ?_)
                                · refine s_iload_n C dX10_conditionFault_228 rfl ?_
                                  exact s_iret C X dX10_conditionFault_229 ⟨(Fr.tr Fr.rf (Fr.mo kF (by decide) (by decide))), by omega, by omega, fun q => by omega⟩
                                · refine s_aload_n C dX10_conditionFault_202 rfl ?_
                                  refine s_callVV (st := []) C (c_X10_testEnds l ad τ o hd ho (by omega)) cv_X10_266 y71 rfl rfl rfl ⟨by decide, by decide⟩ (Nat.le_of_ble_eq_true rfl) dX10_conditionFault_203 ?_
                                  intro τ1368 h1369
                                  have dτ1368 : Int32.toInt (τ1368.1 71 49) = (te o).length := h1369.2
                                  have pτ1368 : Op (τ1368.1 109) (te o) := by rw [h1369.1.a 109 (by decide) (by decide)]; exact Op_te o ho
                                  have qτ1368 := te_len o
                                  obtain ⟨r6, hr6⟩ := te_hd (mh1365.mp (by omega))
                                  have hl6 : 1 ≤ (te o).length := by rw [hr6]; simp
                                  refine s_aload_n C dX10_conditionFault_206 rfl ?_
                                  refine s_dup C dX10_conditionFault_207 rfl ?_
                                  refine s_get (k := 49) (x := (τ1368.1 71 49)) C y71 fw_X10_260 rfl rfl dX10_conditionFault_208 ?_
                                  refine s_iconst C dX10_conditionFault_211 (by decide) (fun z1370 tz1370 => ?_)
                                  refine s_isub C dX10_conditionFault_212 (by omega) (fun z1371 tz1371 => ?_)
                                  refine s_put (k := 49) C y71 fw_X10_260 fp_9_49 rfl dX10_conditionFault_213 ?_
                                  refine s_aload_n C dX10_conditionFault_216 rfl ?_
                                  refine s_callVV (st := []) C (c_X10_testEnds l ad (sV τ1368 71 49 z1371) (te o).tail (by show Int32.toInt z1371 = _; rw [List.length_tail]; omega) (Op_tail _ pτ1368) (by rw [List.length_tail]; omega)) cv_X10_266 y71 rfl rfl rfl ⟨by decide, by decide⟩ (Nat.le_of_ble_eq_true rfl) dX10_conditionFault_217 ?_
                                  intro τ1373 h1374
                                  have dτ1373 : Int32.toInt (τ1373.1 71 49) = (te (te o).tail).length := h1374.2
                                  have pτ1373 : Op (τ1373.1 109) (te (te o).tail) := by rw [h1374.1.a 109 (by decide) (by decide)]; exact Op_te _ (Op_tail _ pτ1368)
                                  have qτ1373 := te_len (te o).tail
                                  have qqτ1373 : (te o).tail.length = (te o).length - 1 := List.length_tail
                                  skip
                                  refine s_iconst C dX10_conditionFault_220 (by decide) (fun z1375 tz1375 => ?_)
                                  refine s_istore_n C dX10_conditionFault_221 (by decide) (Nat.le_of_ble_eq_true rfl) rfl ?_
                                  show WP E ad 222 [some (.ref (ad 71)), some (.int z1375), some (.int z), some (.int (τ.1 86 z.toNatClampNeg))] [] τ1373
                                  refine s_iinc C dX10_conditionFault_222 rfl (by decide) rfl (by decide) (by omega) (fun z1376 tz1376 => ?_)
                                  show WP E ad 225 [some (.ref (ad 71)), some (.int z1375), some (.int z1376), some (.int (τ.1 86 z.toNatClampNeg))] [] τ1373
                                  refine s_goto (tgt := 230) C dX10_conditionFault_225 (by decide) ?_
                                  refine s_iload_n C dX10_conditionFault_230 rfl ?_
                                  refine s_if_ge (tgt := 238) C dX10_conditionFault_231 (by decide) (fun q1377 => ?_) (fun q1377 => ?_)
                                  · refine s_goto (tgt := 9) C dX10_conditionFault_238 (by decide) ?_
                                    refine wp_le (lv' := [some (.ref (ad 71)), some (.int z1375), some (.int z1376), none]) ⟨rfl, ⟨rfl, ⟨rfl, trivial⟩⟩⟩ ?_
                                    have ek1 : z1376.toInt.toNat = z.toInt.toNat + 1 := by omega
                                    exact ih τ1373 (te (te o).tail) z1375 z1376 (Fr.tr (Fr.sV (Fr.tr (Fr.tr Fr.rf (Fr.mo kF (by decide) (by decide))) (Fr.mo h1369.1 (by decide) (by decide))) (Or.inr (by decide))) (Fr.mo h1374.1 (by decide) (by decide))) dτ1373 pτ1373 (by omega) (by omega) (by omega) (fun ⟨f, hf⟩ => hac ⟨f + 1, Or.inr ⟨by omega, Or.inr (Or.inr (Or.inr (Or.inr (Or.inr ⟨by omega, by omega, mh1365.mp (by omega), (by rw [ek1, show z1375.toInt.toNat = 3 by omega] at hf; exact hf)⟩))))⟩⟩) (by omega)
                                  · refine s_iconst C dX10_conditionFault_234 (by decide) (fun z1378 tz1378 => ?_)
                                    refine s_iload_n C dX10_conditionFault_235 rfl ?_
                                    refine s_isub C dX10_conditionFault_236 (by omega) (fun z1379 tz1379 => ?_)
                                    exact s_iret C X dX10_conditionFault_237 ⟨(Fr.tr (Fr.sV (Fr.tr (Fr.tr Fr.rf (Fr.mo kF (by decide) (by decide))) (Fr.mo h1369.1 (by decide) (by decide))) (Or.inr (by decide))) (Fr.mo h1374.1 (by decide) (by decide))), by omega, by omega, fun q => by omega⟩
                          · refine s_iload_n C dX10_conditionFault_167 rfl ?_
                            refine s_iconst C dX10_conditionFault_168 (by decide) (fun z1380 tz1380 => ?_)
                            refine s_icmp_le (tgt := 184) C dX10_conditionFault_169 (by decide) (fun q1381 => ?_) (fun q1381 => ?_)
                            · refine s_iload_n C dX10_conditionFault_184 rfl ?_
                              refine s_bipush C dX10_conditionFault_185 (by decide) (fun z1382 tz1382 => ?_)
                              refine s_icmp_ne (tgt := 228) C dX10_conditionFault_187 (by decide) (fun q1383 => ?_) (fun q1383 => ?_)
                              · refine s_iload_n C dX10_conditionFault_228 rfl ?_
                                exact s_iret C X dX10_conditionFault_229 ⟨(Fr.tr Fr.rf (Fr.mo kF (by decide) (by decide))), by omega, by omega, fun q => by omega⟩
                              · refine s_iload_n C dX10_conditionFault_190 rfl ?_
                                refine s_iconst C dX10_conditionFault_191 (by decide) (fun z1384 tz1384 => ?_)
                                refine s_icmp_le (tgt := 228) C dX10_conditionFault_192 (by decide) (fun q1385 => ?_) (fun q1385 => ?_)
                                · refine s_iload_n C dX10_conditionFault_228 rfl ?_
                                  exact s_iret C X dX10_conditionFault_229 ⟨(Fr.tr Fr.rf (Fr.mo kF (by decide) (by decide))), by omega, by omega, fun q => by omega⟩
                                · refine s_aload_n C dX10_conditionFault_195 rfl ?_
                                  refine s_callVI (st := []) C (c_X10_isOpen l ad τ o hd ho (by omega)) cv_X10_269 y71 rfl rfl rfl ⟨by decide, by decide⟩ (Nat.le_of_ble_eq_true rfl) dX10_conditionFault_196 ?_
                                  intro r1386 τ1387 h1388
                                  obtain ⟨eh1388, h1388⟩ := h1388; replace eh1388 := eh1388.symm; subst eh1388
                                  have mh1388 := h1388.2
                                  refine s_if_eq (tgt := 228) C dX10_conditionFault_199 (by decide) (fun q1389 => ?_) (fun q1389 => ?_)
                                  · refine s_iload_n C dX10_conditionFault_228 rfl ?_
                                    exact s_iret C X dX10_conditionFault_229 ⟨(Fr.tr Fr.rf (Fr.mo kF (by decide) (by decide))), by omega, by omega, fun q => by omega⟩
                                  · refine s_aload_n C dX10_conditionFault_202 rfl ?_
                                    refine s_callVV (st := []) C (c_X10_testEnds l ad τ o hd ho (by omega)) cv_X10_266 y71 rfl rfl rfl ⟨by decide, by decide⟩ (Nat.le_of_ble_eq_true rfl) dX10_conditionFault_203 ?_
                                    intro τ1391 h1392
                                    have dτ1391 : Int32.toInt (τ1391.1 71 49) = (te o).length := h1392.2
                                    have pτ1391 : Op (τ1391.1 109) (te o) := by rw [h1392.1.a 109 (by decide) (by decide)]; exact Op_te o ho
                                    have qτ1391 := te_len o
                                    obtain ⟨r6, hr6⟩ := te_hd (mh1388.mp (by omega))
                                    have hl6 : 1 ≤ (te o).length := by rw [hr6]; simp
                                    refine s_aload_n C dX10_conditionFault_206 rfl ?_
                                    refine s_dup C dX10_conditionFault_207 rfl ?_
                                    refine s_get (k := 49) (x := (τ1391.1 71 49)) C y71 fw_X10_260 rfl rfl dX10_conditionFault_208 ?_
                                    refine s_iconst C dX10_conditionFault_211 (by decide) (fun z1393 tz1393 => ?_)
                                    refine s_isub C dX10_conditionFault_212 (by omega) (fun z1394 tz1394 => ?_)
                                    refine s_put (k := 49) C y71 fw_X10_260 fp_9_49 rfl dX10_conditionFault_213 ?_
                                    refine s_aload_n C dX10_conditionFault_216 rfl ?_
                                    refine s_callVV (st := []) C (c_X10_testEnds l ad (sV τ1391 71 49 z1394) (te o).tail (by show Int32.toInt z1394 = _; rw [List.length_tail]; omega) (Op_tail _ pτ1391) (by rw [List.length_tail]; omega)) cv_X10_266 y71 rfl rfl rfl ⟨by decide, by decide⟩ (Nat.le_of_ble_eq_true rfl) dX10_conditionFault_217 ?_
                                    intro τ1396 h1397
                                    have dτ1396 : Int32.toInt (τ1396.1 71 49) = (te (te o).tail).length := h1397.2
                                    have pτ1396 : Op (τ1396.1 109) (te (te o).tail) := by rw [h1397.1.a 109 (by decide) (by decide)]; exact Op_te _ (Op_tail _ pτ1391)
                                    have qτ1396 := te_len (te o).tail
                                    have qqτ1396 : (te o).tail.length = (te o).length - 1 := List.length_tail
                                    skip
                                    refine s_iconst C dX10_conditionFault_220 (by decide) (fun z1398 tz1398 => ?_)
                                    refine s_istore_n C dX10_conditionFault_221 (by decide) (Nat.le_of_ble_eq_true rfl) rfl ?_
                                    show WP E ad 222 [some (.ref (ad 71)), some (.int z1398), some (.int z), some (.int (τ.1 86 z.toNatClampNeg))] [] τ1396
                                    refine s_iinc C dX10_conditionFault_222 rfl (by decide) rfl (by decide) (by omega) (fun z1399 tz1399 => ?_)
                                    show WP E ad 225 [some (.ref (ad 71)), some (.int z1398), some (.int z1399), some (.int (τ.1 86 z.toNatClampNeg))] [] τ1396
                                    refine s_goto (tgt := 230) C dX10_conditionFault_225 (by decide) ?_
                                    refine s_iload_n C dX10_conditionFault_230 rfl ?_
                                    refine s_if_ge (tgt := 238) C dX10_conditionFault_231 (by decide) (fun q1400 => ?_) (fun q1400 => ?_)
                                    · refine s_goto (tgt := 9) C dX10_conditionFault_238 (by decide) ?_
                                      refine wp_le (lv' := [some (.ref (ad 71)), some (.int z1398), some (.int z1399), none]) ⟨rfl, ⟨rfl, ⟨rfl, trivial⟩⟩⟩ ?_
                                      have ek1 : z1399.toInt.toNat = z.toInt.toNat + 1 := by omega
                                      exact ih τ1396 (te (te o).tail) z1398 z1399 (Fr.tr (Fr.sV (Fr.tr (Fr.tr Fr.rf (Fr.mo kF (by decide) (by decide))) (Fr.mo h1392.1 (by decide) (by decide))) (Or.inr (by decide))) (Fr.mo h1397.1 (by decide) (by decide))) dτ1396 pτ1396 (by omega) (by omega) (by omega) (fun ⟨f, hf⟩ => hac ⟨f + 1, Or.inr ⟨by omega, Or.inr (Or.inr (Or.inr (Or.inr (Or.inr ⟨by omega, by omega, mh1388.mp (by omega), (by rw [ek1, show z1398.toInt.toNat = 3 by omega] at hf; exact hf)⟩))))⟩⟩) (by omega)
                                    · refine s_iconst C dX10_conditionFault_234 (by decide) (fun z1401 tz1401 => ?_)
                                      refine s_iload_n C dX10_conditionFault_235 rfl ?_
                                      refine s_isub C dX10_conditionFault_236 (by omega) (fun z1402 tz1402 => ?_)
                                      exact s_iret C X dX10_conditionFault_237 ⟨(Fr.tr (Fr.sV (Fr.tr (Fr.tr Fr.rf (Fr.mo kF (by decide) (by decide))) (Fr.mo h1392.1 (by decide) (by decide))) (Or.inr (by decide))) (Fr.mo h1397.1 (by decide) (by decide))), by omega, by omega, fun q => by omega⟩
                            · refine s_aload_n C dX10_conditionFault_172 rfl ?_
                              refine s_callVV (st := []) C (c_X10_testEnds l ad τ o hd ho (by omega)) cv_X10_266 y71 rfl rfl rfl ⟨by decide, by decide⟩ (Nat.le_of_ble_eq_true rfl) dX10_conditionFault_173 ?_
                              intro τ1404 h1405
                              have dτ1404 : Int32.toInt (τ1404.1 71 49) = (te o).length := h1405.2
                              have pτ1404 : Op (τ1404.1 109) (te o) := by rw [h1405.1.a 109 (by decide) (by decide)]; exact Op_te o ho
                              have qτ1404 := te_len o
                              skip
                              refine s_iconst C dX10_conditionFault_176 (by decide) (fun z1406 tz1406 => ?_)
                              refine s_istore_n C dX10_conditionFault_177 (by decide) (Nat.le_of_ble_eq_true rfl) rfl ?_
                              show WP E ad 178 [some (.ref (ad 71)), some (.int z1406), some (.int z), some (.int (τ.1 86 z.toNatClampNeg))] [] τ1404
                              refine s_iinc C dX10_conditionFault_178 rfl (by decide) rfl (by decide) (by omega) (fun z1407 tz1407 => ?_)
                              show WP E ad 181 [some (.ref (ad 71)), some (.int z1406), some (.int z1407), some (.int (τ.1 86 z.toNatClampNeg))] [] τ1404
                              refine s_goto (tgt := 230) C dX10_conditionFault_181 (by decide) ?_
                              refine s_iload_n C dX10_conditionFault_230 rfl ?_
                              refine s_if_ge (tgt := 238) C dX10_conditionFault_231 (by decide) (fun q1408 => ?_) (fun q1408 => ?_)
                              · refine s_goto (tgt := 9) C dX10_conditionFault_238 (by decide) ?_
                                refine wp_le (lv' := [some (.ref (ad 71)), some (.int z1406), some (.int z1407), none]) ⟨rfl, ⟨rfl, ⟨rfl, trivial⟩⟩⟩ ?_
                                have ek1 : z1407.toInt.toNat = z.toInt.toNat + 1 := by omega
                                exact ih τ1404 (te o) z1406 z1407 (Fr.tr (Fr.tr Fr.rf (Fr.mo kF (by decide) (by decide))) (Fr.mo h1405.1 (by decide) (by decide))) dτ1404 pτ1404 (by omega) (by omega) (by omega) (fun ⟨f, hf⟩ => hac ⟨f + 1, Or.inr ⟨by omega, Or.inr (Or.inr (Or.inr (Or.inr (Or.inl ⟨by omega, by omega, (by rw [ek1, show z1406.toInt.toNat = 0 by omega] at hf; exact hf)⟩))))⟩⟩) (by omega)
                              · refine s_iconst C dX10_conditionFault_234 (by decide) (fun z1409 tz1409 => ?_)
                                refine s_iload_n C dX10_conditionFault_235 rfl ?_
                                refine s_isub C dX10_conditionFault_236 (by omega) (fun z1410 tz1410 => ?_)
                                exact s_iret C X dX10_conditionFault_237 ⟨(Fr.tr (Fr.tr Fr.rf (Fr.mo kF (by decide) (by decide))) (Fr.mo h1405.1 (by decide) (by decide))), by omega, by omega, fun q => by omega⟩
                      · refine s_aload_n C dX10_conditionFault_142 rfl ?_
                        refine s_iload_n C dX10_conditionFault_143 rfl ?_
                        refine s_iconst C dX10_conditionFault_144 (by decide) (fun z1411 tz1411 => ?_)
                        refine s_iadd C dX10_conditionFault_145 (by omega) (fun z1412 tz1412 => ?_)
                        refine s_callVI (st := []) C (c_X10_behindUnit l ad τ z1412 (by omega) (by omega) (by omega)) cv_X10_263 y71 rfl rfl rfl ⟨by decide, by decide⟩ (Nat.le_of_ble_eq_true rfl) dX10_conditionFault_146 ?_
                        intro r1413 τ1414 h1415
                        obtain ⟨eh1415, h1415⟩ := h1415; replace eh1415 := eh1415.symm; subst eh1415
                        have uh1415 := h1415.2.2
                        rw [f0, f17, e86] at uh1415
                        have vh1415 : 0 ≤ Int32.toInt r1413 → Int32.toInt r1413 ≤ Int32.toInt (σ.1 71 17) := fun q => by have := un_le (uh1415 q).2; omega
                        skip
                        refine s_istore_n C dX10_conditionFault_149 (by decide) (Nat.le_of_ble_eq_true rfl) rfl ?_
                        show WP E ad 150 [some (.ref (ad 71)), some (.int y), some (.int r1413), some (.int (τ.1 86 z.toNatClampNeg))] [] τ
                        refine s_iconst C dX10_conditionFault_150 (by decide) (fun z1416 tz1416 => ?_)
                        refine s_istore_n C dX10_conditionFault_151 (by decide) (Nat.le_of_ble_eq_true rfl) rfl ?_
                        show WP E ad 152 [some (.ref (ad 71)), some (.int z1416), some (.int r1413), some (.int (τ.1 86 z.toNatClampNeg))] [] τ
                        refine s_goto (tgt := 230) C dX10_conditionFault_152 (by decide) ?_
                        refine s_iload_n C dX10_conditionFault_230 rfl ?_
                        refine s_if_ge (tgt := 238) C dX10_conditionFault_231 (by decide) (fun q1417 => ?_) (fun q1417 => ?_)
                        · refine s_goto (tgt := 9) C dX10_conditionFault_238 (by decide) ?_
                          refine wp_le (lv' := [some (.ref (ad 71)), some (.int z1416), some (.int r1413), none]) ⟨rfl, ⟨rfl, ⟨rfl, trivial⟩⟩⟩ ?_
                          have ez1 : z1412.toInt.toNat = z.toInt.toNat + 1 := by omega
                          rw [ez1] at uh1415
                          exact ih τ o z1416 r1413 (Fr.tr Fr.rf (Fr.mo kF (by decide) (by decide))) hd ho (by omega) (by omega) (by omega) (fun ⟨f, hf⟩ => hac ⟨f + 1, Or.inr ⟨by omega, Or.inr (Or.inr (Or.inr (Or.inl ⟨by omega, by omega, _, (uh1415 (by omega)).2, (by rw [show z1416.toInt.toNat = 2 by omega] at hf; exact hf)⟩)))⟩⟩) (by omega)
                        · refine s_iconst C dX10_conditionFault_234 (by decide) (fun z1418 tz1418 => ?_)
                          refine s_iload_n C dX10_conditionFault_235 rfl ?_
                          refine s_isub C dX10_conditionFault_236 (by omega) (fun z1419 tz1419 => ?_)
                          exact s_iret C X dX10_conditionFault_237 ⟨(Fr.tr Fr.rf (Fr.mo kF (by decide) (by decide))), by omega, by omega, fun q => by omega⟩
                    · refine s_iload_n C dX10_conditionFault_131 rfl ?_
                      refine s_bipush C dX10_conditionFault_132 (by decide) (fun z1420 tz1420 => ?_)
                      refine s_icmp_ne (tgt := 155) C dX10_conditionFault_134 (by decide) (fun q1421 => ?_) (fun q1421 => ?_)
                      · refine s_iload_n C dX10_conditionFault_155 rfl ?_
                        refine s_bipush C dX10_conditionFault_156 (by decide) (fun z1422 tz1422 => ?_)
                        refine s_icmp_eq (tgt := 167) C dX10_conditionFault_158 (by decide) (fun q1423 => ?_) (fun q1423 => ?_)
                        · refine s_iload_n C dX10_conditionFault_167 rfl ?_
                          refine s_iconst C dX10_conditionFault_168 (by decide) (fun z1424 tz1424 => ?_)
                          refine s_icmp_le (tgt := 184) C dX10_conditionFault_169 (by decide) (fun q1425 => ?_) (fun q1425 => ?_)
                          · refine s_iload_n C dX10_conditionFault_184 rfl ?_
                            refine s_bipush C dX10_conditionFault_185 (by decide) (fun z1426 tz1426 => ?_)
                            refine s_icmp_ne (tgt := 228) C dX10_conditionFault_187 (by decide) (fun q1427 => ?_) (fun q1427 => ?_)
                            · refine s_iload_n C dX10_conditionFault_228 rfl ?_
                              exact s_iret C X dX10_conditionFault_229 ⟨(Fr.tr Fr.rf (Fr.mo kF (by decide) (by decide))), by omega, by omega, fun q => by omega⟩
                            · refine s_iload_n C dX10_conditionFault_190 rfl ?_
                              refine s_iconst C dX10_conditionFault_191 (by decide) (fun z1428 tz1428 => ?_)
                              refine s_icmp_le (tgt := 228) C dX10_conditionFault_192 (by decide) (fun q1429 => ?_) (fun q1429 => ?_)
                              · refine s_iload_n C dX10_conditionFault_228 rfl ?_
                                exact s_iret C X dX10_conditionFault_229 ⟨(Fr.tr Fr.rf (Fr.mo kF (by decide) (by decide))), by omega, by omega, fun q => by omega⟩
                              · refine s_aload_n C dX10_conditionFault_195 rfl ?_
                                refine s_callVI (st := []) C (c_X10_isOpen l ad τ o hd ho (by omega)) cv_X10_269 y71 rfl rfl rfl ⟨by decide, by decide⟩ (Nat.le_of_ble_eq_true rfl) dX10_conditionFault_196 ?_
                                intro r1430 τ1431 h1432
                                obtain ⟨eh1432, h1432⟩ := h1432; replace eh1432 := eh1432.symm; subst eh1432
                                have mh1432 := h1432.2
                                refine s_if_eq (tgt := 228) C dX10_conditionFault_199 (by decide) (fun q1433 => ?_) (fun q1433 => ?_)
                                · refine s_iload_n C dX10_conditionFault_228 rfl ?_
                                  exact s_iret C X dX10_conditionFault_229 ⟨(Fr.tr Fr.rf (Fr.mo kF (by decide) (by decide))), by omega, by omega, fun q => by omega⟩
                                · refine s_aload_n C dX10_conditionFault_202 rfl ?_
                                  refine s_callVV (st := []) C (c_X10_testEnds l ad τ o hd ho (by omega)) cv_X10_266 y71 rfl rfl rfl ⟨by decide, by decide⟩ (Nat.le_of_ble_eq_true rfl) dX10_conditionFault_203 ?_
                                  intro τ1435 h1436
                                  have dτ1435 : Int32.toInt (τ1435.1 71 49) = (te o).length := h1436.2
                                  have pτ1435 : Op (τ1435.1 109) (te o) := by rw [h1436.1.a 109 (by decide) (by decide)]; exact Op_te o ho
                                  have qτ1435 := te_len o
                                  obtain ⟨r6, hr6⟩ := te_hd (mh1432.mp (by omega))
                                  have hl6 : 1 ≤ (te o).length := by rw [hr6]; simp
                                  refine s_aload_n C dX10_conditionFault_206 rfl ?_
                                  refine s_dup C dX10_conditionFault_207 rfl ?_
                                  refine s_get (k := 49) (x := (τ1435.1 71 49)) C y71 fw_X10_260 rfl rfl dX10_conditionFault_208 ?_
                                  refine s_iconst C dX10_conditionFault_211 (by decide) (fun z1437 tz1437 => ?_)
                                  refine s_isub C dX10_conditionFault_212 (by omega) (fun z1438 tz1438 => ?_)
                                  refine s_put (k := 49) C y71 fw_X10_260 fp_9_49 rfl dX10_conditionFault_213 ?_
                                  refine s_aload_n C dX10_conditionFault_216 rfl ?_
                                  refine s_callVV (st := []) C (c_X10_testEnds l ad (sV τ1435 71 49 z1438) (te o).tail (by show Int32.toInt z1438 = _; rw [List.length_tail]; omega) (Op_tail _ pτ1435) (by rw [List.length_tail]; omega)) cv_X10_266 y71 rfl rfl rfl ⟨by decide, by decide⟩ (Nat.le_of_ble_eq_true rfl) dX10_conditionFault_217 ?_
                                  intro τ1440 h1441
                                  have dτ1440 : Int32.toInt (τ1440.1 71 49) = (te (te o).tail).length := h1441.2
                                  have pτ1440 : Op (τ1440.1 109) (te (te o).tail) := by rw [h1441.1.a 109 (by decide) (by decide)]; exact Op_te _ (Op_tail _ pτ1435)
                                  have qτ1440 := te_len (te o).tail
                                  have qqτ1440 : (te o).tail.length = (te o).length - 1 := List.length_tail
                                  skip
                                  refine s_iconst C dX10_conditionFault_220 (by decide) (fun z1442 tz1442 => ?_)
                                  refine s_istore_n C dX10_conditionFault_221 (by decide) (Nat.le_of_ble_eq_true rfl) rfl ?_
                                  show WP E ad 222 [some (.ref (ad 71)), some (.int z1442), some (.int z), some (.int (τ.1 86 z.toNatClampNeg))] [] τ1440
                                  refine s_iinc C dX10_conditionFault_222 rfl (by decide) rfl (by decide) (by omega) (fun z1443 tz1443 => ?_)
                                  show WP E ad 225 [some (.ref (ad 71)), some (.int z1442), some (.int z1443), some (.int (τ.1 86 z.toNatClampNeg))] [] τ1440
                                  refine s_goto (tgt := 230) C dX10_conditionFault_225 (by decide) ?_
                                  refine s_iload_n C dX10_conditionFault_230 rfl ?_
                                  refine s_if_ge (tgt := 238) C dX10_conditionFault_231 (by decide) (fun q1444 => ?_) (fun q1444 => ?_)
                                  · refine s_goto (tgt := 9) C dX10_conditionFault_238 (by decide) ?_
                                    refine wp_le (lv' := [some (.ref (ad 71)), some (.int z1442), some (.int z1443), none]) ⟨rfl, ⟨rfl, ⟨rfl, trivial⟩⟩⟩ ?_
                                    have ek1 : z1443.toInt.toNat = z.toInt.toNat + 1 := by omega
                                    exact ih τ1440 (te (te o).tail) z1442 z1443 (Fr.tr (Fr.sV (Fr.tr (Fr.tr Fr.rf (Fr.mo kF (by decide) (by decide))) (Fr.mo h1436.1 (by decide) (by decide))) (Or.inr (by decide))) (Fr.mo h1441.1 (by decide) (by decide))) dτ1440 pτ1440 (by omega) (by omega) (by omega) (fun ⟨f, hf⟩ => hac ⟨f + 1, Or.inr ⟨by omega, Or.inr (Or.inr (Or.inr (Or.inr (Or.inr ⟨by omega, by omega, mh1432.mp (by omega), (by rw [ek1, show z1442.toInt.toNat = 3 by omega] at hf; exact hf)⟩))))⟩⟩) (by omega)
                                  · refine s_iconst C dX10_conditionFault_234 (by decide) (fun z1445 tz1445 => ?_)
                                    refine s_iload_n C dX10_conditionFault_235 rfl ?_
                                    refine s_isub C dX10_conditionFault_236 (by omega) (fun z1446 tz1446 => ?_)
                                    exact s_iret C X dX10_conditionFault_237 ⟨(Fr.tr (Fr.sV (Fr.tr (Fr.tr Fr.rf (Fr.mo kF (by decide) (by decide))) (Fr.mo h1436.1 (by decide) (by decide))) (Or.inr (by decide))) (Fr.mo h1441.1 (by decide) (by decide))), by omega, by omega, fun q => by omega⟩
                          · refine s_aload_n C dX10_conditionFault_172 rfl ?_
                            refine s_callVV (st := []) C (c_X10_testEnds l ad τ o hd ho (by omega)) cv_X10_266 y71 rfl rfl rfl ⟨by decide, by decide⟩ (Nat.le_of_ble_eq_true rfl) dX10_conditionFault_173 ?_
                            intro τ1448 h1449
                            have dτ1448 : Int32.toInt (τ1448.1 71 49) = (te o).length := h1449.2
                            have pτ1448 : Op (τ1448.1 109) (te o) := by rw [h1449.1.a 109 (by decide) (by decide)]; exact Op_te o ho
                            have qτ1448 := te_len o
                            skip
                            refine s_iconst C dX10_conditionFault_176 (by decide) (fun z1450 tz1450 => ?_)
                            refine s_istore_n C dX10_conditionFault_177 (by decide) (Nat.le_of_ble_eq_true rfl) rfl ?_
                            show WP E ad 178 [some (.ref (ad 71)), some (.int z1450), some (.int z), some (.int (τ.1 86 z.toNatClampNeg))] [] τ1448
                            refine s_iinc C dX10_conditionFault_178 rfl (by decide) rfl (by decide) (by omega) (fun z1451 tz1451 => ?_)
                            show WP E ad 181 [some (.ref (ad 71)), some (.int z1450), some (.int z1451), some (.int (τ.1 86 z.toNatClampNeg))] [] τ1448
                            refine s_goto (tgt := 230) C dX10_conditionFault_181 (by decide) ?_
                            refine s_iload_n C dX10_conditionFault_230 rfl ?_
                            refine s_if_ge (tgt := 238) C dX10_conditionFault_231 (by decide) (fun q1452 => ?_) (fun q1452 => ?_)
                            · refine s_goto (tgt := 9) C dX10_conditionFault_238 (by decide) ?_
                              refine wp_le (lv' := [some (.ref (ad 71)), some (.int z1450), some (.int z1451), none]) ⟨rfl, ⟨rfl, ⟨rfl, trivial⟩⟩⟩ ?_
                              have ek1 : z1451.toInt.toNat = z.toInt.toNat + 1 := by omega
                              exact ih τ1448 (te o) z1450 z1451 (Fr.tr (Fr.tr Fr.rf (Fr.mo kF (by decide) (by decide))) (Fr.mo h1449.1 (by decide) (by decide))) dτ1448 pτ1448 (by omega) (by omega) (by omega) (fun ⟨f, hf⟩ => hac ⟨f + 1, Or.inr ⟨by omega, Or.inr (Or.inr (Or.inr (Or.inr (Or.inl ⟨by omega, by omega, (by rw [ek1, show z1450.toInt.toNat = 0 by omega] at hf; exact hf)⟩))))⟩⟩) (by omega)
                            · refine s_iconst C dX10_conditionFault_234 (by decide) (fun z1453 tz1453 => ?_)
                              refine s_iload_n C dX10_conditionFault_235 rfl ?_
                              refine s_isub C dX10_conditionFault_236 (by omega) (fun z1454 tz1454 => ?_)
                              exact s_iret C X dX10_conditionFault_237 ⟨(Fr.tr (Fr.tr Fr.rf (Fr.mo kF (by decide) (by decide))) (Fr.mo h1449.1 (by decide) (by decide))), by omega, by omega, fun q => by omega⟩
                        · refine s_iload_n C dX10_conditionFault_161 rfl ?_
                          refine s_bipush C dX10_conditionFault_162 (by decide) (fun z1455 tz1455 => ?_)
                          refine s_icmp_ne (tgt := 184) C dX10_conditionFault_164 (by decide) (fun q1456 => ?_) (fun q1456 => ?_)
                          · refine s_iload_n C dX10_conditionFault_184 rfl ?_
                            refine s_bipush C dX10_conditionFault_185 (by decide) (fun z1457 tz1457 => ?_)
                            refine s_icmp_ne (tgt := 228) C dX10_conditionFault_187 (by decide) (fun q1458 => ?_) (fun q1458 => ?_)
                            · refine s_iload_n C dX10_conditionFault_228 rfl ?_
                              exact s_iret C X dX10_conditionFault_229 ⟨(Fr.tr Fr.rf (Fr.mo kF (by decide) (by decide))), by omega, by omega, fun q => by omega⟩
                            · refine s_iload_n C dX10_conditionFault_190 rfl ?_
                              refine s_iconst C dX10_conditionFault_191 (by decide) (fun z1459 tz1459 => ?_)
                              refine s_icmp_le (tgt := 228) C dX10_conditionFault_192 (by decide) (fun q1460 => ?_) (fun q1460 => ?_)
                              · refine s_iload_n C dX10_conditionFault_228 rfl ?_
                                exact s_iret C X dX10_conditionFault_229 ⟨(Fr.tr Fr.rf (Fr.mo kF (by decide) (by decide))), by omega, by omega, fun q => by omega⟩
                              · refine s_aload_n C dX10_conditionFault_195 rfl ?_
                                refine s_callVI (st := []) C (c_X10_isOpen l ad τ o hd ho (by omega)) cv_X10_269 y71 rfl rfl rfl ⟨by decide, by decide⟩ (Nat.le_of_ble_eq_true rfl) dX10_conditionFault_196 ?_
                                intro r1461 τ1462 h1463
                                obtain ⟨eh1463, h1463⟩ := h1463; replace eh1463 := eh1463.symm; subst eh1463
                                have mh1463 := h1463.2
                                refine s_if_eq (tgt := 228) C dX10_conditionFault_199 (by decide) (fun q1464 => ?_) (fun q1464 => ?_)
                                · refine s_iload_n C dX10_conditionFault_228 rfl ?_
                                  exact s_iret C X dX10_conditionFault_229 ⟨(Fr.tr Fr.rf (Fr.mo kF (by decide) (by decide))), by omega, by omega, fun q => by omega⟩
                                · refine s_aload_n C dX10_conditionFault_202 rfl ?_
                                  refine s_callVV (st := []) C (c_X10_testEnds l ad τ o hd ho (by omega)) cv_X10_266 y71 rfl rfl rfl ⟨by decide, by decide⟩ (Nat.le_of_ble_eq_true rfl) dX10_conditionFault_203 ?_
                                  intro τ1466 h1467
                                  have dτ1466 : Int32.toInt (τ1466.1 71 49) = (te o).length := h1467.2
                                  have pτ1466 : Op (τ1466.1 109) (te o) := by rw [h1467.1.a 109 (by decide) (by decide)]; exact Op_te o ho
                                  have qτ1466 := te_len o
                                  obtain ⟨r6, hr6⟩ := te_hd (mh1463.mp (by omega))
                                  have hl6 : 1 ≤ (te o).length := by rw [hr6]; simp
                                  refine s_aload_n C dX10_conditionFault_206 rfl ?_
                                  refine s_dup C dX10_conditionFault_207 rfl ?_
                                  refine s_get (k := 49) (x := (τ1466.1 71 49)) C y71 fw_X10_260 rfl rfl dX10_conditionFault_208 ?_
                                  refine s_iconst C dX10_conditionFault_211 (by decide) (fun z1468 tz1468 => ?_)
                                  refine s_isub C dX10_conditionFault_212 (by omega) (fun z1469 tz1469 => ?_)
                                  refine s_put (k := 49) C y71 fw_X10_260 fp_9_49 rfl dX10_conditionFault_213 ?_
                                  refine s_aload_n C dX10_conditionFault_216 rfl ?_
                                  refine s_callVV (st := []) C (c_X10_testEnds l ad (sV τ1466 71 49 z1469) (te o).tail (by show Int32.toInt z1469 = _; rw [List.length_tail]; omega) (Op_tail _ pτ1466) (by rw [List.length_tail]; omega)) cv_X10_266 y71 rfl rfl rfl ⟨by decide, by decide⟩ (Nat.le_of_ble_eq_true rfl) dX10_conditionFault_217 ?_
                                  intro τ1471 h1472
                                  have dτ1471 : Int32.toInt (τ1471.1 71 49) = (te (te o).tail).length := h1472.2
                                  have pτ1471 : Op (τ1471.1 109) (te (te o).tail) := by rw [h1472.1.a 109 (by decide) (by decide)]; exact Op_te _ (Op_tail _ pτ1466)
                                  have qτ1471 := te_len (te o).tail
                                  have qqτ1471 : (te o).tail.length = (te o).length - 1 := List.length_tail
                                  skip
                                  refine s_iconst C dX10_conditionFault_220 (by decide) (fun z1473 tz1473 => ?_)
                                  refine s_istore_n C dX10_conditionFault_221 (by decide) (Nat.le_of_ble_eq_true rfl) rfl ?_
                                  show WP E ad 222 [some (.ref (ad 71)), some (.int z1473), some (.int z), some (.int (τ.1 86 z.toNatClampNeg))] [] τ1471
                                  refine s_iinc C dX10_conditionFault_222 rfl (by decide) rfl (by decide) (by omega) (fun z1474 tz1474 => ?_)
                                  show WP E ad 225 [some (.ref (ad 71)), some (.int z1473), some (.int z1474), some (.int (τ.1 86 z.toNatClampNeg))] [] τ1471
                                  refine s_goto (tgt := 230) C dX10_conditionFault_225 (by decide) ?_
                                  refine s_iload_n C dX10_conditionFault_230 rfl ?_
                                  refine s_if_ge (tgt := 238) C dX10_conditionFault_231 (by decide) (fun q1475 => ?_) (fun q1475 => ?_)
                                  · refine s_goto (tgt := 9) C dX10_conditionFault_238 (by decide) ?_
                                    refine wp_le (lv' := [some (.ref (ad 71)), some (.int z1473), some (.int z1474), none]) ⟨rfl, ⟨rfl, ⟨rfl, trivial⟩⟩⟩ ?_
                                    have ek1 : z1474.toInt.toNat = z.toInt.toNat + 1 := by omega
                                    exact ih τ1471 (te (te o).tail) z1473 z1474 (Fr.tr (Fr.sV (Fr.tr (Fr.tr Fr.rf (Fr.mo kF (by decide) (by decide))) (Fr.mo h1467.1 (by decide) (by decide))) (Or.inr (by decide))) (Fr.mo h1472.1 (by decide) (by decide))) dτ1471 pτ1471 (by omega) (by omega) (by omega) (fun ⟨f, hf⟩ => hac ⟨f + 1, Or.inr ⟨by omega, Or.inr (Or.inr (Or.inr (Or.inr (Or.inr ⟨by omega, by omega, mh1463.mp (by omega), (by rw [ek1, show z1473.toInt.toNat = 3 by omega] at hf; exact hf)⟩))))⟩⟩) (by omega)
                                  · refine s_iconst C dX10_conditionFault_234 (by decide) (fun z1476 tz1476 => ?_)
                                    refine s_iload_n C dX10_conditionFault_235 rfl ?_
                                    refine s_isub C dX10_conditionFault_236 (by omega) (fun z1477 tz1477 => ?_)
                                    exact s_iret C X dX10_conditionFault_237 ⟨(Fr.tr (Fr.sV (Fr.tr (Fr.tr Fr.rf (Fr.mo kF (by decide) (by decide))) (Fr.mo h1467.1 (by decide) (by decide))) (Or.inr (by decide))) (Fr.mo h1472.1 (by decide) (by decide))), by omega, by omega, fun q => by omega⟩
                          · refine s_iload_n C dX10_conditionFault_167 rfl ?_
                            refine s_iconst C dX10_conditionFault_168 (by decide) (fun z1478 tz1478 => ?_)
                            refine s_icmp_le (tgt := 184) C dX10_conditionFault_169 (by decide) (fun q1479 => ?_) (fun q1479 => ?_)
                            · refine s_iload_n C dX10_conditionFault_184 rfl ?_
                              refine s_bipush C dX10_conditionFault_185 (by decide) (fun z1480 tz1480 => ?_)
                              refine s_icmp_ne (tgt := 228) C dX10_conditionFault_187 (by decide) (fun q1481 => ?_) (fun q1481 => ?_)
                              · refine s_iload_n C dX10_conditionFault_228 rfl ?_
                                exact s_iret C X dX10_conditionFault_229 ⟨(Fr.tr Fr.rf (Fr.mo kF (by decide) (by decide))), by omega, by omega, fun q => by omega⟩
                              · refine s_iload_n C dX10_conditionFault_190 rfl ?_
                                refine s_iconst C dX10_conditionFault_191 (by decide) (fun z1482 tz1482 => ?_)
                                refine s_icmp_le (tgt := 228) C dX10_conditionFault_192 (by decide) (fun q1483 => ?_) (fun q1483 => ?_)
                                · refine s_iload_n C dX10_conditionFault_228 rfl ?_
                                  exact s_iret C X dX10_conditionFault_229 ⟨(Fr.tr Fr.rf (Fr.mo kF (by decide) (by decide))), by omega, by omega, fun q => by omega⟩
                                · refine s_aload_n C dX10_conditionFault_195 rfl ?_
                                  refine s_callVI (st := []) C (c_X10_isOpen l ad τ o hd ho (by omega)) cv_X10_269 y71 rfl rfl rfl ⟨by decide, by decide⟩ (Nat.le_of_ble_eq_true rfl) dX10_conditionFault_196 ?_
                                  intro r1484 τ1485 h1486
                                  obtain ⟨eh1486, h1486⟩ := h1486; replace eh1486 := eh1486.symm; subst eh1486
                                  have mh1486 := h1486.2
                                  refine s_if_eq (tgt := 228) C dX10_conditionFault_199 (by decide) (fun q1487 => ?_) (fun q1487 => ?_)
                                  · refine s_iload_n C dX10_conditionFault_228 rfl ?_
                                    exact s_iret C X dX10_conditionFault_229 ⟨(Fr.tr Fr.rf (Fr.mo kF (by decide) (by decide))), by omega, by omega, fun q => by omega⟩
                                  · refine s_aload_n C dX10_conditionFault_202 rfl ?_
                                    refine s_callVV (st := []) C (c_X10_testEnds l ad τ o hd ho (by omega)) cv_X10_266 y71 rfl rfl rfl ⟨by decide, by decide⟩ (Nat.le_of_ble_eq_true rfl) dX10_conditionFault_203 ?_
                                    intro τ1489 h1490
                                    have dτ1489 : Int32.toInt (τ1489.1 71 49) = (te o).length := h1490.2
                                    have pτ1489 : Op (τ1489.1 109) (te o) := by rw [h1490.1.a 109 (by decide) (by decide)]; exact Op_te o ho
                                    have qτ1489 := te_len o
                                    obtain ⟨r6, hr6⟩ := te_hd (mh1486.mp (by omega))
                                    have hl6 : 1 ≤ (te o).length := by rw [hr6]; simp
                                    refine s_aload_n C dX10_conditionFault_206 rfl ?_
                                    refine s_dup C dX10_conditionFault_207 rfl ?_
                                    refine s_get (k := 49) (x := (τ1489.1 71 49)) C y71 fw_X10_260 rfl rfl dX10_conditionFault_208 ?_
                                    refine s_iconst C dX10_conditionFault_211 (by decide) (fun z1491 tz1491 => ?_)
                                    refine s_isub C dX10_conditionFault_212 (by omega) (fun z1492 tz1492 => ?_)
                                    refine s_put (k := 49) C y71 fw_X10_260 fp_9_49 rfl dX10_conditionFault_213 ?_
                                    refine s_aload_n C dX10_conditionFault_216 rfl ?_
                                    refine s_callVV (st := []) C (c_X10_testEnds l ad (sV τ1489 71 49 z1492) (te o).tail (by show Int32.toInt z1492 = _; rw [List.length_tail]; omega) (Op_tail _ pτ1489) (by rw [List.length_tail]; omega)) cv_X10_266 y71 rfl rfl rfl ⟨by decide, by decide⟩ (Nat.le_of_ble_eq_true rfl) dX10_conditionFault_217 ?_
                                    intro τ1494 h1495
                                    have dτ1494 : Int32.toInt (τ1494.1 71 49) = (te (te o).tail).length := h1495.2
                                    have pτ1494 : Op (τ1494.1 109) (te (te o).tail) := by rw [h1495.1.a 109 (by decide) (by decide)]; exact Op_te _ (Op_tail _ pτ1489)
                                    have qτ1494 := te_len (te o).tail
                                    have qqτ1494 : (te o).tail.length = (te o).length - 1 := List.length_tail
                                    skip
                                    refine s_iconst C dX10_conditionFault_220 (by decide) (fun z1496 tz1496 => ?_)
                                    refine s_istore_n C dX10_conditionFault_221 (by decide) (Nat.le_of_ble_eq_true rfl) rfl ?_
                                    show WP E ad 222 [some (.ref (ad 71)), some (.int z1496), some (.int z), some (.int (τ.1 86 z.toNatClampNeg))] [] τ1494
                                    refine s_iinc C dX10_conditionFault_222 rfl (by decide) rfl (by decide) (by omega) (fun z1497 tz1497 => ?_)
                                    show WP E ad 225 [some (.ref (ad 71)), some (.int z1496), some (.int z1497), some (.int (τ.1 86 z.toNatClampNeg))] [] τ1494
                                    refine s_goto (tgt := 230) C dX10_conditionFault_225 (by decide) ?_
                                    refine s_iload_n C dX10_conditionFault_230 rfl ?_
                                    refine s_if_ge (tgt := 238) C dX10_conditionFault_231 (by decide) (fun q1498 => ?_) (fun q1498 => ?_)
                                    · refine s_goto (tgt := 9) C dX10_conditionFault_238 (by decide) ?_
                                      refine wp_le (lv' := [some (.ref (ad 71)), some (.int z1496), some (.int z1497), none]) ⟨rfl, ⟨rfl, ⟨rfl, trivial⟩⟩⟩ ?_
                                      have ek1 : z1497.toInt.toNat = z.toInt.toNat + 1 := by omega
                                      exact ih τ1494 (te (te o).tail) z1496 z1497 (Fr.tr (Fr.sV (Fr.tr (Fr.tr Fr.rf (Fr.mo kF (by decide) (by decide))) (Fr.mo h1490.1 (by decide) (by decide))) (Or.inr (by decide))) (Fr.mo h1495.1 (by decide) (by decide))) dτ1494 pτ1494 (by omega) (by omega) (by omega) (fun ⟨f, hf⟩ => hac ⟨f + 1, Or.inr ⟨by omega, Or.inr (Or.inr (Or.inr (Or.inr (Or.inr ⟨by omega, by omega, mh1486.mp (by omega), (by rw [ek1, show z1496.toInt.toNat = 3 by omega] at hf; exact hf)⟩))))⟩⟩) (by omega)
                                    · refine s_iconst C dX10_conditionFault_234 (by decide) (fun z1499 tz1499 => ?_)
                                      refine s_iload_n C dX10_conditionFault_235 rfl ?_
                                      refine s_isub C dX10_conditionFault_236 (by omega) (fun z1500 tz1500 => ?_)
                                      exact s_iret C X dX10_conditionFault_237 ⟨(Fr.tr (Fr.sV (Fr.tr (Fr.tr Fr.rf (Fr.mo kF (by decide) (by decide))) (Fr.mo h1490.1 (by decide) (by decide))) (Or.inr (by decide))) (Fr.mo h1495.1 (by decide) (by decide))), by omega, by omega, fun q => by omega⟩
                            · refine s_aload_n C dX10_conditionFault_172 rfl ?_
                              refine s_callVV (st := []) C (c_X10_testEnds l ad τ o hd ho (by omega)) cv_X10_266 y71 rfl rfl rfl ⟨by decide, by decide⟩ (Nat.le_of_ble_eq_true rfl) dX10_conditionFault_173 ?_
                              intro τ1502 h1503
                              have dτ1502 : Int32.toInt (τ1502.1 71 49) = (te o).length := h1503.2
                              have pτ1502 : Op (τ1502.1 109) (te o) := by rw [h1503.1.a 109 (by decide) (by decide)]; exact Op_te o ho
                              have qτ1502 := te_len o
                              skip
                              refine s_iconst C dX10_conditionFault_176 (by decide) (fun z1504 tz1504 => ?_)
                              refine s_istore_n C dX10_conditionFault_177 (by decide) (Nat.le_of_ble_eq_true rfl) rfl ?_
                              show WP E ad 178 [some (.ref (ad 71)), some (.int z1504), some (.int z), some (.int (τ.1 86 z.toNatClampNeg))] [] τ1502
                              refine s_iinc C dX10_conditionFault_178 rfl (by decide) rfl (by decide) (by omega) (fun z1505 tz1505 => ?_)
                              show WP E ad 181 [some (.ref (ad 71)), some (.int z1504), some (.int z1505), some (.int (τ.1 86 z.toNatClampNeg))] [] τ1502
                              refine s_goto (tgt := 230) C dX10_conditionFault_181 (by decide) ?_
                              refine s_iload_n C dX10_conditionFault_230 rfl ?_
                              refine s_if_ge (tgt := 238) C dX10_conditionFault_231 (by decide) (fun q1506 => ?_) (fun q1506 => ?_)
                              · refine s_goto (tgt := 9) C dX10_conditionFault_238 (by decide) ?_
                                refine wp_le (lv' := [some (.ref (ad 71)), some (.int z1504), some (.int z1505), none]) ⟨rfl, ⟨rfl, ⟨rfl, trivial⟩⟩⟩ ?_
                                have ek1 : z1505.toInt.toNat = z.toInt.toNat + 1 := by omega
                                exact ih τ1502 (te o) z1504 z1505 (Fr.tr (Fr.tr Fr.rf (Fr.mo kF (by decide) (by decide))) (Fr.mo h1503.1 (by decide) (by decide))) dτ1502 pτ1502 (by omega) (by omega) (by omega) (fun ⟨f, hf⟩ => hac ⟨f + 1, Or.inr ⟨by omega, Or.inr (Or.inr (Or.inr (Or.inr (Or.inl ⟨by omega, by omega, (by rw [ek1, show z1504.toInt.toNat = 0 by omega] at hf; exact hf)⟩))))⟩⟩) (by omega)
                              · refine s_iconst C dX10_conditionFault_234 (by decide) (fun z1507 tz1507 => ?_)
                                refine s_iload_n C dX10_conditionFault_235 rfl ?_
                                refine s_isub C dX10_conditionFault_236 (by omega) (fun z1508 tz1508 => ?_)
                                exact s_iret C X dX10_conditionFault_237 ⟨(Fr.tr (Fr.tr Fr.rf (Fr.mo kF (by decide) (by decide))) (Fr.mo h1503.1 (by decide) (by decide))), by omega, by omega, fun q => by omega⟩
                      · refine s_iload_n C dX10_conditionFault_137 rfl ?_
                        refine s_iconst C dX10_conditionFault_138 (by decide) (fun z1509 tz1509 => ?_)
                        refine s_icmp_ne (tgt := 155) C dX10_conditionFault_139 (by decide) (fun q1510 => ?_) (fun q1510 => ?_)
                        · refine s_iload_n C dX10_conditionFault_155 rfl ?_
                          refine s_bipush C dX10_conditionFault_156 (by decide) (fun z1511 tz1511 => ?_)
                          refine s_icmp_eq (tgt := 167) C dX10_conditionFault_158 (by decide) (fun q1512 => ?_) (fun q1512 => ?_)
                          · refine s_iload_n C dX10_conditionFault_167 rfl ?_
                            refine s_iconst C dX10_conditionFault_168 (by decide) (fun z1513 tz1513 => ?_)
                            refine s_icmp_le (tgt := 184) C dX10_conditionFault_169 (by decide) (fun q1514 => ?_) (fun q1514 => ?_)
                            · refine s_iload_n C dX10_conditionFault_184 rfl ?_
                              refine s_bipush C dX10_conditionFault_185 (by decide) (fun z1515 tz1515 => ?_)
                              refine s_icmp_ne (tgt := 228) C dX10_conditionFault_187 (by decide) (fun q1516 => ?_) (fun q1516 => ?_)
                              · refine s_iload_n C dX10_conditionFault_228 rfl ?_
                                exact s_iret C X dX10_conditionFault_229 ⟨(Fr.tr Fr.rf (Fr.mo kF (by decide) (by decide))), by omega, by omega, fun q => by omega⟩
                              · refine s_iload_n C dX10_conditionFault_190 rfl ?_
                                refine s_iconst C dX10_conditionFault_191 (by decide) (fun z1517 tz1517 => ?_)
                                refine s_icmp_le (tgt := 228) C dX10_conditionFault_192 (by decide) (fun q1518 => ?_) (fun q1518 => ?_)
                                · refine s_iload_n C dX10_conditionFault_228 rfl ?_
                                  exact s_iret C X dX10_conditionFault_229 ⟨(Fr.tr Fr.rf (Fr.mo kF (by decide) (by decide))), by omega, by omega, fun q => by omega⟩
                                · refine s_aload_n C dX10_conditionFault_195 rfl ?_
                                  refine s_callVI (st := []) C (c_X10_isOpen l ad τ o hd ho (by omega)) cv_X10_269 y71 rfl rfl rfl ⟨by decide, by decide⟩ (Nat.le_of_ble_eq_true rfl) dX10_conditionFault_196 ?_
                                  intro r1519 τ1520 h1521
                                  obtain ⟨eh1521, h1521⟩ := h1521; replace eh1521 := eh1521.symm; subst eh1521
                                  have mh1521 := h1521.2
                                  refine s_if_eq (tgt := 228) C dX10_conditionFault_199 (by decide) (fun q1522 => ?_) (fun q1522 => ?_)
                                  · refine s_iload_n C dX10_conditionFault_228 rfl ?_
                                    exact s_iret C X dX10_conditionFault_229 ⟨(Fr.tr Fr.rf (Fr.mo kF (by decide) (by decide))), by omega, by omega, fun q => by omega⟩
                                  · refine s_aload_n C dX10_conditionFault_202 rfl ?_
                                    refine s_callVV (st := []) C (c_X10_testEnds l ad τ o hd ho (by omega)) cv_X10_266 y71 rfl rfl rfl ⟨by decide, by decide⟩ (Nat.le_of_ble_eq_true rfl) dX10_conditionFault_203 ?_
                                    intro τ1524 h1525
                                    have dτ1524 : Int32.toInt (τ1524.1 71 49) = (te o).length := h1525.2
                                    have pτ1524 : Op (τ1524.1 109) (te o) := by rw [h1525.1.a 109 (by decide) (by decide)]; exact Op_te o ho
                                    have qτ1524 := te_len o
                                    obtain ⟨r6, hr6⟩ := te_hd (mh1521.mp (by omega))
                                    have hl6 : 1 ≤ (te o).length := by rw [hr6]; simp
                                    refine s_aload_n C dX10_conditionFault_206 rfl ?_
                                    refine s_dup C dX10_conditionFault_207 rfl ?_
                                    refine s_get (k := 49) (x := (τ1524.1 71 49)) C y71 fw_X10_260 rfl rfl dX10_conditionFault_208 ?_
                                    refine s_iconst C dX10_conditionFault_211 (by decide) (fun z1526 tz1526 => ?_)
                                    refine s_isub C dX10_conditionFault_212 (by omega) (fun z1527 tz1527 => ?_)
                                    refine s_put (k := 49) C y71 fw_X10_260 fp_9_49 rfl dX10_conditionFault_213 ?_
                                    refine s_aload_n C dX10_conditionFault_216 rfl ?_
                                    refine s_callVV (st := []) C (c_X10_testEnds l ad (sV τ1524 71 49 z1527) (te o).tail (by show Int32.toInt z1527 = _; rw [List.length_tail]; omega) (Op_tail _ pτ1524) (by rw [List.length_tail]; omega)) cv_X10_266 y71 rfl rfl rfl ⟨by decide, by decide⟩ (Nat.le_of_ble_eq_true rfl) dX10_conditionFault_217 ?_
                                    intro τ1529 h1530
                                    have dτ1529 : Int32.toInt (τ1529.1 71 49) = (te (te o).tail).length := h1530.2
                                    have pτ1529 : Op (τ1529.1 109) (te (te o).tail) := by rw [h1530.1.a 109 (by decide) (by decide)]; exact Op_te _ (Op_tail _ pτ1524)
                                    have qτ1529 := te_len (te o).tail
                                    have qqτ1529 : (te o).tail.length = (te o).length - 1 := List.length_tail
                                    skip
                                    refine s_iconst C dX10_conditionFault_220 (by decide) (fun z1531 tz1531 => ?_)
                                    refine s_istore_n C dX10_conditionFault_221 (by decide) (Nat.le_of_ble_eq_true rfl) rfl ?_
                                    show WP E ad 222 [some (.ref (ad 71)), some (.int z1531), some (.int z), some (.int (τ.1 86 z.toNatClampNeg))] [] τ1529
                                    refine s_iinc C dX10_conditionFault_222 rfl (by decide) rfl (by decide) (by omega) (fun z1532 tz1532 => ?_)
                                    show WP E ad 225 [some (.ref (ad 71)), some (.int z1531), some (.int z1532), some (.int (τ.1 86 z.toNatClampNeg))] [] τ1529
                                    refine s_goto (tgt := 230) C dX10_conditionFault_225 (by decide) ?_
                                    refine s_iload_n C dX10_conditionFault_230 rfl ?_
                                    refine s_if_ge (tgt := 238) C dX10_conditionFault_231 (by decide) (fun q1533 => ?_) (fun q1533 => ?_)
                                    · refine s_goto (tgt := 9) C dX10_conditionFault_238 (by decide) ?_
                                      refine wp_le (lv' := [some (.ref (ad 71)), some (.int z1531), some (.int z1532), none]) ⟨rfl, ⟨rfl, ⟨rfl, trivial⟩⟩⟩ ?_
                                      have ek1 : z1532.toInt.toNat = z.toInt.toNat + 1 := by omega
                                      exact ih τ1529 (te (te o).tail) z1531 z1532 (Fr.tr (Fr.sV (Fr.tr (Fr.tr Fr.rf (Fr.mo kF (by decide) (by decide))) (Fr.mo h1525.1 (by decide) (by decide))) (Or.inr (by decide))) (Fr.mo h1530.1 (by decide) (by decide))) dτ1529 pτ1529 (by omega) (by omega) (by omega) (fun ⟨f, hf⟩ => hac ⟨f + 1, Or.inr ⟨by omega, Or.inr (Or.inr (Or.inr (Or.inr (Or.inr ⟨by omega, by omega, mh1521.mp (by omega), (by rw [ek1, show z1531.toInt.toNat = 3 by omega] at hf; exact hf)⟩))))⟩⟩) (by omega)
                                    · refine s_iconst C dX10_conditionFault_234 (by decide) (fun z1534 tz1534 => ?_)
                                      refine s_iload_n C dX10_conditionFault_235 rfl ?_
                                      refine s_isub C dX10_conditionFault_236 (by omega) (fun z1535 tz1535 => ?_)
                                      exact s_iret C X dX10_conditionFault_237 ⟨(Fr.tr (Fr.sV (Fr.tr (Fr.tr Fr.rf (Fr.mo kF (by decide) (by decide))) (Fr.mo h1525.1 (by decide) (by decide))) (Or.inr (by decide))) (Fr.mo h1530.1 (by decide) (by decide))), by omega, by omega, fun q => by omega⟩
                            · refine s_aload_n C dX10_conditionFault_172 rfl ?_
                              refine s_callVV (st := []) C (c_X10_testEnds l ad τ o hd ho (by omega)) cv_X10_266 y71 rfl rfl rfl ⟨by decide, by decide⟩ (Nat.le_of_ble_eq_true rfl) dX10_conditionFault_173 ?_
                              intro τ1537 h1538
                              have dτ1537 : Int32.toInt (τ1537.1 71 49) = (te o).length := h1538.2
                              have pτ1537 : Op (τ1537.1 109) (te o) := by rw [h1538.1.a 109 (by decide) (by decide)]; exact Op_te o ho
                              have qτ1537 := te_len o
                              skip
                              refine s_iconst C dX10_conditionFault_176 (by decide) (fun z1539 tz1539 => ?_)
                              refine s_istore_n C dX10_conditionFault_177 (by decide) (Nat.le_of_ble_eq_true rfl) rfl ?_
                              show WP E ad 178 [some (.ref (ad 71)), some (.int z1539), some (.int z), some (.int (τ.1 86 z.toNatClampNeg))] [] τ1537
                              refine s_iinc C dX10_conditionFault_178 rfl (by decide) rfl (by decide) (by omega) (fun z1540 tz1540 => ?_)
                              show WP E ad 181 [some (.ref (ad 71)), some (.int z1539), some (.int z1540), some (.int (τ.1 86 z.toNatClampNeg))] [] τ1537
                              refine s_goto (tgt := 230) C dX10_conditionFault_181 (by decide) ?_
                              refine s_iload_n C dX10_conditionFault_230 rfl ?_
                              refine s_if_ge (tgt := 238) C dX10_conditionFault_231 (by decide) (fun q1541 => ?_) (fun q1541 => ?_)
                              · refine s_goto (tgt := 9) C dX10_conditionFault_238 (by decide) ?_
                                refine wp_le (lv' := [some (.ref (ad 71)), some (.int z1539), some (.int z1540), none]) ⟨rfl, ⟨rfl, ⟨rfl, trivial⟩⟩⟩ ?_
                                have ek1 : z1540.toInt.toNat = z.toInt.toNat + 1 := by omega
                                exact ih τ1537 (te o) z1539 z1540 (Fr.tr (Fr.tr Fr.rf (Fr.mo kF (by decide) (by decide))) (Fr.mo h1538.1 (by decide) (by decide))) dτ1537 pτ1537 (by omega) (by omega) (by omega) (fun ⟨f, hf⟩ => hac ⟨f + 1, Or.inr ⟨by omega, Or.inr (Or.inr (Or.inr (Or.inr (Or.inl ⟨by omega, by omega, (by rw [ek1, show z1539.toInt.toNat = 0 by omega] at hf; exact hf)⟩))))⟩⟩) (by omega)
                              · refine s_iconst C dX10_conditionFault_234 (by decide) (fun z1542 tz1542 => ?_)
                                refine s_iload_n C dX10_conditionFault_235 rfl ?_
                                refine s_isub C dX10_conditionFault_236 (by omega) (fun z1543 tz1543 => ?_)
                                exact s_iret C X dX10_conditionFault_237 ⟨(Fr.tr (Fr.tr Fr.rf (Fr.mo kF (by decide) (by decide))) (Fr.mo h1538.1 (by decide) (by decide))), by omega, by omega, fun q => by omega⟩
                          · refine s_iload_n C dX10_conditionFault_161 rfl ?_
                            refine s_bipush C dX10_conditionFault_162 (by decide) (fun z1544 tz1544 => ?_)
                            refine s_icmp_ne (tgt := 184) C dX10_conditionFault_164 (by decide) (fun q1545 => ?_) (fun q1545 => ?_)
                            · refine s_iload_n C dX10_conditionFault_184 rfl ?_
                              refine s_bipush C dX10_conditionFault_185 (by decide) (fun z1546 tz1546 => ?_)
                              refine s_icmp_ne (tgt := 228) C dX10_conditionFault_187 (by decide) (fun q1547 => ?_) (fun q1547 => ?_)
                              · refine s_iload_n C dX10_conditionFault_228 rfl ?_
                                exact s_iret C X dX10_conditionFault_229 ⟨(Fr.tr Fr.rf (Fr.mo kF (by decide) (by decide))), by omega, by omega, fun q => by omega⟩
                              · refine s_iload_n C dX10_conditionFault_190 rfl ?_
                                refine s_iconst C dX10_conditionFault_191 (by decide) (fun z1548 tz1548 => ?_)
                                refine s_icmp_le (tgt := 228) C dX10_conditionFault_192 (by decide) (fun q1549 => ?_) (fun q1549 => ?_)
                                · refine s_iload_n C dX10_conditionFault_228 rfl ?_
                                  exact s_iret C X dX10_conditionFault_229 ⟨(Fr.tr Fr.rf (Fr.mo kF (by decide) (by decide))), by omega, by omega, fun q => by omega⟩
                                · refine s_aload_n C dX10_conditionFault_195 rfl ?_
                                  refine s_callVI (st := []) C (c_X10_isOpen l ad τ o hd ho (by omega)) cv_X10_269 y71 rfl rfl rfl ⟨by decide, by decide⟩ (Nat.le_of_ble_eq_true rfl) dX10_conditionFault_196 ?_
                                  intro r1550 τ1551 h1552
                                  obtain ⟨eh1552, h1552⟩ := h1552; replace eh1552 := eh1552.symm; subst eh1552
                                  have mh1552 := h1552.2
                                  refine s_if_eq (tgt := 228) C dX10_conditionFault_199 (by decide) (fun q1553 => ?_) (fun q1553 => ?_)
                                  · refine s_iload_n C dX10_conditionFault_228 rfl ?_
                                    exact s_iret C X dX10_conditionFault_229 ⟨(Fr.tr Fr.rf (Fr.mo kF (by decide) (by decide))), by omega, by omega, fun q => by omega⟩
                                  · refine s_aload_n C dX10_conditionFault_202 rfl ?_
                                    refine s_callVV (st := []) C (c_X10_testEnds l ad τ o hd ho (by omega)) cv_X10_266 y71 rfl rfl rfl ⟨by decide, by decide⟩ (Nat.le_of_ble_eq_true rfl) dX10_conditionFault_203 ?_
                                    intro τ1555 h1556
                                    have dτ1555 : Int32.toInt (τ1555.1 71 49) = (te o).length := h1556.2
                                    have pτ1555 : Op (τ1555.1 109) (te o) := by rw [h1556.1.a 109 (by decide) (by decide)]; exact Op_te o ho
                                    have qτ1555 := te_len o
                                    obtain ⟨r6, hr6⟩ := te_hd (mh1552.mp (by omega))
                                    have hl6 : 1 ≤ (te o).length := by rw [hr6]; simp
                                    refine s_aload_n C dX10_conditionFault_206 rfl ?_
                                    refine s_dup C dX10_conditionFault_207 rfl ?_
                                    refine s_get (k := 49) (x := (τ1555.1 71 49)) C y71 fw_X10_260 rfl rfl dX10_conditionFault_208 ?_
                                    refine s_iconst C dX10_conditionFault_211 (by decide) (fun z1557 tz1557 => ?_)
                                    refine s_isub C dX10_conditionFault_212 (by omega) (fun z1558 tz1558 => ?_)
                                    refine s_put (k := 49) C y71 fw_X10_260 fp_9_49 rfl dX10_conditionFault_213 ?_
                                    refine s_aload_n C dX10_conditionFault_216 rfl ?_
                                    refine s_callVV (st := []) C (c_X10_testEnds l ad (sV τ1555 71 49 z1558) (te o).tail (by show Int32.toInt z1558 = _; rw [List.length_tail]; omega) (Op_tail _ pτ1555) (by rw [List.length_tail]; omega)) cv_X10_266 y71 rfl rfl rfl ⟨by decide, by decide⟩ (Nat.le_of_ble_eq_true rfl) dX10_conditionFault_217 ?_
                                    intro τ1560 h1561
                                    have dτ1560 : Int32.toInt (τ1560.1 71 49) = (te (te o).tail).length := h1561.2
                                    have pτ1560 : Op (τ1560.1 109) (te (te o).tail) := by rw [h1561.1.a 109 (by decide) (by decide)]; exact Op_te _ (Op_tail _ pτ1555)
                                    have qτ1560 := te_len (te o).tail
                                    have qqτ1560 : (te o).tail.length = (te o).length - 1 := List.length_tail
                                    skip
                                    refine s_iconst C dX10_conditionFault_220 (by decide) (fun z1562 tz1562 => ?_)
                                    refine s_istore_n C dX10_conditionFault_221 (by decide) (Nat.le_of_ble_eq_true rfl) rfl ?_
                                    show WP E ad 222 [some (.ref (ad 71)), some (.int z1562), some (.int z), some (.int (τ.1 86 z.toNatClampNeg))] [] τ1560
                                    refine s_iinc C dX10_conditionFault_222 rfl (by decide) rfl (by decide) (by omega) (fun z1563 tz1563 => ?_)
                                    show WP E ad 225 [some (.ref (ad 71)), some (.int z1562), some (.int z1563), some (.int (τ.1 86 z.toNatClampNeg))] [] τ1560
                                    refine s_goto (tgt := 230) C dX10_conditionFault_225 (by decide) ?_
                                    refine s_iload_n C dX10_conditionFault_230 rfl ?_
                                    refine s_if_ge (tgt := 238) C dX10_conditionFault_231 (by decide) (fun q1564 => ?_) (fun q1564 => ?_)
                                    · refine s_goto (tgt := 9) C dX10_conditionFault_238 (by decide) ?_
                                      refine wp_le (lv' := [some (.ref (ad 71)), some (.int z1562), some (.int z1563), none]) ⟨rfl, ⟨rfl, ⟨rfl, trivial⟩⟩⟩ ?_
                                      have ek1 : z1563.toInt.toNat = z.toInt.toNat + 1 := by omega
                                      exact ih τ1560 (te (te o).tail) z1562 z1563 (Fr.tr (Fr.sV (Fr.tr (Fr.tr Fr.rf (Fr.mo kF (by decide) (by decide))) (Fr.mo h1556.1 (by decide) (by decide))) (Or.inr (by decide))) (Fr.mo h1561.1 (by decide) (by decide))) dτ1560 pτ1560 (by omega) (by omega) (by omega) (fun ⟨f, hf⟩ => hac ⟨f + 1, Or.inr ⟨by omega, Or.inr (Or.inr (Or.inr (Or.inr (Or.inr ⟨by omega, by omega, mh1552.mp (by omega), (by rw [ek1, show z1562.toInt.toNat = 3 by omega] at hf; exact hf)⟩))))⟩⟩) (by omega)
                                    · refine s_iconst C dX10_conditionFault_234 (by decide) (fun z1565 tz1565 => ?_)
                                      refine s_iload_n C dX10_conditionFault_235 rfl ?_
                                      refine s_isub C dX10_conditionFault_236 (by omega) (fun z1566 tz1566 => ?_)
                                      exact s_iret C X dX10_conditionFault_237 ⟨(Fr.tr (Fr.sV (Fr.tr (Fr.tr Fr.rf (Fr.mo kF (by decide) (by decide))) (Fr.mo h1556.1 (by decide) (by decide))) (Or.inr (by decide))) (Fr.mo h1561.1 (by decide) (by decide))), by omega, by omega, fun q => by omega⟩
                            · refine s_iload_n C dX10_conditionFault_167 rfl ?_
                              refine s_iconst C dX10_conditionFault_168 (by decide) (fun z1567 tz1567 => ?_)
                              refine s_icmp_le (tgt := 184) C dX10_conditionFault_169 (by decide) (fun q1568 => ?_) (fun q1568 => ?_)
                              · refine s_iload_n C dX10_conditionFault_184 rfl ?_
                                refine s_bipush C dX10_conditionFault_185 (by decide) (fun z1569 tz1569 => ?_)
                                refine s_icmp_ne (tgt := 228) C dX10_conditionFault_187 (by decide) (fun q1570 => ?_) (fun q1570 => ?_)
                                · refine s_iload_n C dX10_conditionFault_228 rfl ?_
                                  exact s_iret C X dX10_conditionFault_229 ⟨(Fr.tr Fr.rf (Fr.mo kF (by decide) (by decide))), by omega, by omega, fun q => by omega⟩
                                · refine s_iload_n C dX10_conditionFault_190 rfl ?_
                                  refine s_iconst C dX10_conditionFault_191 (by decide) (fun z1571 tz1571 => ?_)
                                  refine s_icmp_le (tgt := 228) C dX10_conditionFault_192 (by decide) (fun q1572 => ?_) (fun q1572 => ?_)
                                  · refine s_iload_n C dX10_conditionFault_228 rfl ?_
                                    exact s_iret C X dX10_conditionFault_229 ⟨(Fr.tr Fr.rf (Fr.mo kF (by decide) (by decide))), by omega, by omega, fun q => by omega⟩
                                  · refine s_aload_n C dX10_conditionFault_195 rfl ?_
                                    refine s_callVI (st := []) C (c_X10_isOpen l ad τ o hd ho (by omega)) cv_X10_269 y71 rfl rfl rfl ⟨by decide, by decide⟩ (Nat.le_of_ble_eq_true rfl) dX10_conditionFault_196 ?_
                                    intro r1573 τ1574 h1575
                                    obtain ⟨eh1575, h1575⟩ := h1575; replace eh1575 := eh1575.symm; subst eh1575
                                    have mh1575 := h1575.2
                                    refine s_if_eq (tgt := 228) C dX10_conditionFault_199 (by decide) (fun q1576 => ?_) (fun q1576 => ?_)
                                    · refine s_iload_n C dX10_conditionFault_228 rfl ?_
                                      exact s_iret C X dX10_conditionFault_229 ⟨(Fr.tr Fr.rf (Fr.mo kF (by decide) (by decide))), by omega, by omega, fun q => by omega⟩
                                    · refine s_aload_n C dX10_conditionFault_202 rfl ?_
                                      refine s_callVV (st := []) C (c_X10_testEnds l ad τ o hd ho (by omega)) cv_X10_266 y71 rfl rfl rfl ⟨by decide, by decide⟩ (Nat.le_of_ble_eq_true rfl) dX10_conditionFault_203 ?_
                                      intro τ1578 h1579
                                      have dτ1578 : Int32.toInt (τ1578.1 71 49) = (te o).length := h1579.2
                                      have pτ1578 : Op (τ1578.1 109) (te o) := by rw [h1579.1.a 109 (by decide) (by decide)]; exact Op_te o ho
                                      have qτ1578 := te_len o
                                      obtain ⟨r6, hr6⟩ := te_hd (mh1575.mp (by omega))
                                      have hl6 : 1 ≤ (te o).length := by rw [hr6]; simp
                                      refine s_aload_n C dX10_conditionFault_206 rfl ?_
                                      refine s_dup C dX10_conditionFault_207 rfl ?_
                                      refine s_get (k := 49) (x := (τ1578.1 71 49)) C y71 fw_X10_260 rfl rfl dX10_conditionFault_208 ?_
                                      refine s_iconst C dX10_conditionFault_211 (by decide) (fun z1580 tz1580 => ?_)
                                      refine s_isub C dX10_conditionFault_212 (by omega) (fun z1581 tz1581 => ?_)
                                      refine s_put (k := 49) C y71 fw_X10_260 fp_9_49 rfl dX10_conditionFault_213 ?_
                                      refine s_aload_n C dX10_conditionFault_216 rfl ?_
                                      refine s_callVV (st := []) C (c_X10_testEnds l ad (sV τ1578 71 49 z1581) (te o).tail (by show Int32.toInt z1581 = _; rw [List.length_tail]; omega) (Op_tail _ pτ1578) (by rw [List.length_tail]; omega)) cv_X10_266 y71 rfl rfl rfl ⟨by decide, by decide⟩ (Nat.le_of_ble_eq_true rfl) dX10_conditionFault_217 ?_
                                      intro τ1583 h1584
                                      have dτ1583 : Int32.toInt (τ1583.1 71 49) = (te (te o).tail).length := h1584.2
                                      have pτ1583 : Op (τ1583.1 109) (te (te o).tail) := by rw [h1584.1.a 109 (by decide) (by decide)]; exact Op_te _ (Op_tail _ pτ1578)
                                      have qτ1583 := te_len (te o).tail
                                      have qqτ1583 : (te o).tail.length = (te o).length - 1 := List.length_tail
                                      skip
                                      refine s_iconst C dX10_conditionFault_220 (by decide) (fun z1585 tz1585 => ?_)
                                      refine s_istore_n C dX10_conditionFault_221 (by decide) (Nat.le_of_ble_eq_true rfl) rfl ?_
                                      show WP E ad 222 [some (.ref (ad 71)), some (.int z1585), some (.int z), some (.int (τ.1 86 z.toNatClampNeg))] [] τ1583
                                      refine s_iinc C dX10_conditionFault_222 rfl (by decide) rfl (by decide) (by omega) (fun z1586 tz1586 => ?_)
                                      show WP E ad 225 [some (.ref (ad 71)), some (.int z1585), some (.int z1586), some (.int (τ.1 86 z.toNatClampNeg))] [] τ1583
                                      refine s_goto (tgt := 230) C dX10_conditionFault_225 (by decide) ?_
                                      refine s_iload_n C dX10_conditionFault_230 rfl ?_
                                      refine s_if_ge (tgt := 238) C dX10_conditionFault_231 (by decide) (fun q1587 => ?_) (fun q1587 => ?_)
                                      · refine s_goto (tgt := 9) C dX10_conditionFault_238 (by decide) ?_
                                        refine wp_le (lv' := [some (.ref (ad 71)), some (.int z1585), some (.int z1586), none]) ⟨rfl, ⟨rfl, ⟨rfl, trivial⟩⟩⟩ ?_
                                        have ek1 : z1586.toInt.toNat = z.toInt.toNat + 1 := by omega
                                        exact ih τ1583 (te (te o).tail) z1585 z1586 (Fr.tr (Fr.sV (Fr.tr (Fr.tr Fr.rf (Fr.mo kF (by decide) (by decide))) (Fr.mo h1579.1 (by decide) (by decide))) (Or.inr (by decide))) (Fr.mo h1584.1 (by decide) (by decide))) dτ1583 pτ1583 (by omega) (by omega) (by omega) (fun ⟨f, hf⟩ => hac ⟨f + 1, Or.inr ⟨by omega, Or.inr (Or.inr (Or.inr (Or.inr (Or.inr ⟨by omega, by omega, mh1575.mp (by omega), (by rw [ek1, show z1585.toInt.toNat = 3 by omega] at hf; exact hf)⟩))))⟩⟩) (by omega)
                                      · refine s_iconst C dX10_conditionFault_234 (by decide) (fun z1588 tz1588 => ?_)
                                        refine s_iload_n C dX10_conditionFault_235 rfl ?_
                                        refine s_isub C dX10_conditionFault_236 (by omega) (fun z1589 tz1589 => ?_)
                                        exact s_iret C X dX10_conditionFault_237 ⟨(Fr.tr (Fr.sV (Fr.tr (Fr.tr Fr.rf (Fr.mo kF (by decide) (by decide))) (Fr.mo h1579.1 (by decide) (by decide))) (Or.inr (by decide))) (Fr.mo h1584.1 (by decide) (by decide))), by omega, by omega, fun q => by omega⟩
                              · refine s_aload_n C dX10_conditionFault_172 rfl ?_
                                refine s_callVV (st := []) C (c_X10_testEnds l ad τ o hd ho (by omega)) cv_X10_266 y71 rfl rfl rfl ⟨by decide, by decide⟩ (Nat.le_of_ble_eq_true rfl) dX10_conditionFault_173 ?_
                                intro τ1591 h1592
                                have dτ1591 : Int32.toInt (τ1591.1 71 49) = (te o).length := h1592.2
                                have pτ1591 : Op (τ1591.1 109) (te o) := by rw [h1592.1.a 109 (by decide) (by decide)]; exact Op_te o ho
                                have qτ1591 := te_len o
                                skip
                                refine s_iconst C dX10_conditionFault_176 (by decide) (fun z1593 tz1593 => ?_)
                                refine s_istore_n C dX10_conditionFault_177 (by decide) (Nat.le_of_ble_eq_true rfl) rfl ?_
                                show WP E ad 178 [some (.ref (ad 71)), some (.int z1593), some (.int z), some (.int (τ.1 86 z.toNatClampNeg))] [] τ1591
                                refine s_iinc C dX10_conditionFault_178 rfl (by decide) rfl (by decide) (by omega) (fun z1594 tz1594 => ?_)
                                show WP E ad 181 [some (.ref (ad 71)), some (.int z1593), some (.int z1594), some (.int (τ.1 86 z.toNatClampNeg))] [] τ1591
                                refine s_goto (tgt := 230) C dX10_conditionFault_181 (by decide) ?_
                                refine s_iload_n C dX10_conditionFault_230 rfl ?_
                                refine s_if_ge (tgt := 238) C dX10_conditionFault_231 (by decide) (fun q1595 => ?_) (fun q1595 => ?_)
                                · refine s_goto (tgt := 9) C dX10_conditionFault_238 (by decide) ?_
                                  refine wp_le (lv' := [some (.ref (ad 71)), some (.int z1593), some (.int z1594), none]) ⟨rfl, ⟨rfl, ⟨rfl, trivial⟩⟩⟩ ?_
                                  have ek1 : z1594.toInt.toNat = z.toInt.toNat + 1 := by omega
                                  exact ih τ1591 (te o) z1593 z1594 (Fr.tr (Fr.tr Fr.rf (Fr.mo kF (by decide) (by decide))) (Fr.mo h1592.1 (by decide) (by decide))) dτ1591 pτ1591 (by omega) (by omega) (by omega) (fun ⟨f, hf⟩ => hac ⟨f + 1, Or.inr ⟨by omega, Or.inr (Or.inr (Or.inr (Or.inr (Or.inl ⟨by omega, by omega, (by rw [ek1, show z1593.toInt.toNat = 0 by omega] at hf; exact hf)⟩))))⟩⟩) (by omega)
                                · refine s_iconst C dX10_conditionFault_234 (by decide) (fun z1596 tz1596 => ?_)
                                  refine s_iload_n C dX10_conditionFault_235 rfl ?_
                                  refine s_isub C dX10_conditionFault_236 (by omega) (fun z1597 tz1597 => ?_)
                                  exact s_iret C X dX10_conditionFault_237 ⟨(Fr.tr (Fr.tr Fr.rf (Fr.mo kF (by decide) (by decide))) (Fr.mo h1592.1 (by decide) (by decide))), by omega, by omega, fun q => by omega⟩
                        · refine s_aload_n C dX10_conditionFault_142 rfl ?_
                          refine s_iload_n C dX10_conditionFault_143 rfl ?_
                          refine s_iconst C dX10_conditionFault_144 (by decide) (fun z1598 tz1598 => ?_)
                          refine s_iadd C dX10_conditionFault_145 (by omega) (fun z1599 tz1599 => ?_)
                          refine s_callVI (st := []) C (c_X10_behindUnit l ad τ z1599 (by omega) (by omega) (by omega)) cv_X10_263 y71 rfl rfl rfl ⟨by decide, by decide⟩ (Nat.le_of_ble_eq_true rfl) dX10_conditionFault_146 ?_
                          intro r1600 τ1601 h1602
                          obtain ⟨eh1602, h1602⟩ := h1602; replace eh1602 := eh1602.symm; subst eh1602
                          have uh1602 := h1602.2.2
                          rw [f0, f17, e86] at uh1602
                          have vh1602 : 0 ≤ Int32.toInt r1600 → Int32.toInt r1600 ≤ Int32.toInt (σ.1 71 17) := fun q => by have := un_le (uh1602 q).2; omega
                          skip
                          refine s_istore_n C dX10_conditionFault_149 (by decide) (Nat.le_of_ble_eq_true rfl) rfl ?_
                          show WP E ad 150 [some (.ref (ad 71)), some (.int y), some (.int r1600), some (.int (τ.1 86 z.toNatClampNeg))] [] τ
                          refine s_iconst C dX10_conditionFault_150 (by decide) (fun z1603 tz1603 => ?_)
                          refine s_istore_n C dX10_conditionFault_151 (by decide) (Nat.le_of_ble_eq_true rfl) rfl ?_
                          show WP E ad 152 [some (.ref (ad 71)), some (.int z1603), some (.int r1600), some (.int (τ.1 86 z.toNatClampNeg))] [] τ
                          refine s_goto (tgt := 230) C dX10_conditionFault_152 (by decide) ?_
                          refine s_iload_n C dX10_conditionFault_230 rfl ?_
                          refine s_if_ge (tgt := 238) C dX10_conditionFault_231 (by decide) (fun q1604 => ?_) (fun q1604 => ?_)
                          · refine s_goto (tgt := 9) C dX10_conditionFault_238 (by decide) ?_
                            refine wp_le (lv' := [some (.ref (ad 71)), some (.int z1603), some (.int r1600), none]) ⟨rfl, ⟨rfl, ⟨rfl, trivial⟩⟩⟩ ?_
                            have ez1 : z1599.toInt.toNat = z.toInt.toNat + 1 := by omega
                            rw [ez1] at uh1602
                            exact ih τ o z1603 r1600 (Fr.tr Fr.rf (Fr.mo kF (by decide) (by decide))) hd ho (by omega) (by omega) (by omega) (fun ⟨f, hf⟩ => hac ⟨f + 1, Or.inr ⟨by omega, Or.inr (Or.inr (Or.inr (Or.inl ⟨by omega, by omega, _, (uh1602 (by omega)).2, (by rw [show z1603.toInt.toNat = 2 by omega] at hf; exact hf)⟩)))⟩⟩) (by omega)
                          · refine s_iconst C dX10_conditionFault_234 (by decide) (fun z1605 tz1605 => ?_)
                            refine s_iload_n C dX10_conditionFault_235 rfl ?_
                            refine s_isub C dX10_conditionFault_236 (by omega) (fun z1606 tz1606 => ?_)
                            exact s_iret C X dX10_conditionFault_237 ⟨(Fr.tr Fr.rf (Fr.mo kF (by decide) (by decide))), by omega, by omega, fun q => by omega⟩
                · refine s_aload_n C dX10_conditionFault_108 rfl ?_
                  refine s_iload_n C dX10_conditionFault_109 rfl ?_
                  refine s_iconst C dX10_conditionFault_110 (by decide) (fun z1607 tz1607 => ?_)
                  refine s_iadd C dX10_conditionFault_111 (by omega) (fun z1608 tz1608 => ?_)
                  refine s_callVI (st := []) C (c_X10_behindUnit l ad τ z1608 (by omega) (by omega) (by omega)) cv_X10_263 y71 rfl rfl rfl ⟨by decide, by decide⟩ (Nat.le_of_ble_eq_true rfl) dX10_conditionFault_112 ?_
                  intro r1609 τ1610 h1611
                  obtain ⟨eh1611, h1611⟩ := h1611; replace eh1611 := eh1611.symm; subst eh1611
                  have uh1611 := h1611.2.2
                  rw [f0, f17, e86] at uh1611
                  have vh1611 : 0 ≤ Int32.toInt r1609 → Int32.toInt r1609 ≤ Int32.toInt (σ.1 71 17) := fun q => by have := un_le (uh1611 q).2; omega
                  skip
                  refine s_istore_n C dX10_conditionFault_115 (by decide) (Nat.le_of_ble_eq_true rfl) rfl ?_
                  show WP E ad 116 [some (.ref (ad 71)), some (.int y), some (.int r1609), some (.int (τ.1 86 z.toNatClampNeg))] [] τ
                  refine s_goto (tgt := 230) C dX10_conditionFault_116 (by decide) ?_
                  refine s_iload_n C dX10_conditionFault_230 rfl ?_
                  refine s_if_ge (tgt := 238) C dX10_conditionFault_231 (by decide) (fun q1612 => ?_) (fun q1612 => ?_)
                  · refine s_goto (tgt := 9) C dX10_conditionFault_238 (by decide) ?_
                    refine wp_le (lv' := [some (.ref (ad 71)), some (.int y), some (.int r1609), none]) ⟨rfl, ⟨rfl, ⟨rfl, trivial⟩⟩⟩ ?_
                    have ez1 : z1608.toInt.toNat = z.toInt.toNat + 1 := by omega
                    rw [ez1] at uh1611
                    exact ih τ o y r1609 (Fr.tr Fr.rf (Fr.mo kF (by decide) (by decide))) hd ho (by omega) (by omega) (by omega) (fun ⟨f, hf⟩ => hac ⟨f + 1, Or.inr ⟨by omega, Or.inr (Or.inr (Or.inl ⟨by omega, by omega, _, (uh1611 (by omega)).2, hf⟩))⟩⟩) (by omega)
                  · refine s_iconst C dX10_conditionFault_234 (by decide) (fun z1613 tz1613 => ?_)
                    refine s_iload_n C dX10_conditionFault_235 rfl ?_
                    refine s_isub C dX10_conditionFault_236 (by omega) (fun z1614 tz1614 => ?_)
                    exact s_iret C X dX10_conditionFault_237 ⟨(Fr.tr Fr.rf (Fr.mo kF (by decide) (by decide))), by omega, by omega, fun q => by omega⟩
              · refine s_iload_n C dX10_conditionFault_97 rfl ?_
                refine s_bipush C dX10_conditionFault_98 (by decide) (fun z1615 tz1615 => ?_)
                refine s_icmp_ne (tgt := 119) C dX10_conditionFault_100 (by decide) (fun q1616 => ?_) (fun q1616 => ?_)
                · refine s_iload_n C dX10_conditionFault_119 rfl ?_
                  refine s_bipush C dX10_conditionFault_120 (by decide) (fun z1617 tz1617 => ?_)
                  refine s_icmp_eq (tgt := 137) C dX10_conditionFault_122 (by decide) (fun q1618 => ?_) (fun q1618 => ?_)
                  · refine s_iload_n C dX10_conditionFault_137 rfl ?_
                    refine s_iconst C dX10_conditionFault_138 (by decide) (fun z1619 tz1619 => ?_)
                    refine s_icmp_ne (tgt := 155) C dX10_conditionFault_139 (by decide) (fun q1620 => ?_) (fun q1620 => ?_)
                    · refine s_iload_n C dX10_conditionFault_155 rfl ?_
                      refine s_bipush C dX10_conditionFault_156 (by decide) (fun z1621 tz1621 => ?_)
                      refine s_icmp_eq (tgt := 167) C dX10_conditionFault_158 (by decide) (fun q1622 => ?_) (fun q1622 => ?_)
                      · refine s_iload_n C dX10_conditionFault_167 rfl ?_
                        refine s_iconst C dX10_conditionFault_168 (by decide) (fun z1623 tz1623 => ?_)
                        refine s_icmp_le (tgt := 184) C dX10_conditionFault_169 (by decide) (fun q1624 => ?_) (fun q1624 => ?_)
                        · refine s_iload_n C dX10_conditionFault_184 rfl ?_
                          refine s_bipush C dX10_conditionFault_185 (by decide) (fun z1625 tz1625 => ?_)
                          refine s_icmp_ne (tgt := 228) C dX10_conditionFault_187 (by decide) (fun q1626 => ?_) (fun q1626 => ?_)
                          · refine s_iload_n C dX10_conditionFault_228 rfl ?_
                            exact s_iret C X dX10_conditionFault_229 ⟨(Fr.tr Fr.rf (Fr.mo kF (by decide) (by decide))), by omega, by omega, fun q => by omega⟩
                          · refine s_iload_n C dX10_conditionFault_190 rfl ?_
                            refine s_iconst C dX10_conditionFault_191 (by decide) (fun z1627 tz1627 => ?_)
                            refine s_icmp_le (tgt := 228) C dX10_conditionFault_192 (by decide) (fun q1628 => ?_) (fun q1628 => ?_)
                            · refine s_iload_n C dX10_conditionFault_228 rfl ?_
                              exact s_iret C X dX10_conditionFault_229 ⟨(Fr.tr Fr.rf (Fr.mo kF (by decide) (by decide))), by omega, by omega, fun q => by omega⟩
                            · refine s_aload_n C dX10_conditionFault_195 rfl ?_
                              refine s_callVI (st := []) C (c_X10_isOpen l ad τ o hd ho (by omega)) cv_X10_269 y71 rfl rfl rfl ⟨by decide, by decide⟩ (Nat.le_of_ble_eq_true rfl) dX10_conditionFault_196 ?_
                              intro r1629 τ1630 h1631
                              obtain ⟨eh1631, h1631⟩ := h1631; replace eh1631 := eh1631.symm; subst eh1631
                              have mh1631 := h1631.2
                              refine s_if_eq (tgt := 228) C dX10_conditionFault_199 (by decide) (fun q1632 => ?_) (fun q1632 => ?_)
                              · refine s_iload_n C dX10_conditionFault_228 rfl ?_
                                exact s_iret C X dX10_conditionFault_229 ⟨(Fr.tr Fr.rf (Fr.mo kF (by decide) (by decide))), by omega, by omega, fun q => by omega⟩
                              · refine s_aload_n C dX10_conditionFault_202 rfl ?_
                                refine s_callVV (st := []) C (c_X10_testEnds l ad τ o hd ho (by omega)) cv_X10_266 y71 rfl rfl rfl ⟨by decide, by decide⟩ (Nat.le_of_ble_eq_true rfl) dX10_conditionFault_203 ?_
                                intro τ1634 h1635
                                have dτ1634 : Int32.toInt (τ1634.1 71 49) = (te o).length := h1635.2
                                have pτ1634 : Op (τ1634.1 109) (te o) := by rw [h1635.1.a 109 (by decide) (by decide)]; exact Op_te o ho
                                have qτ1634 := te_len o
                                obtain ⟨r6, hr6⟩ := te_hd (mh1631.mp (by omega))
                                have hl6 : 1 ≤ (te o).length := by rw [hr6]; simp
                                refine s_aload_n C dX10_conditionFault_206 rfl ?_
                                refine s_dup C dX10_conditionFault_207 rfl ?_
                                refine s_get (k := 49) (x := (τ1634.1 71 49)) C y71 fw_X10_260 rfl rfl dX10_conditionFault_208 ?_
                                refine s_iconst C dX10_conditionFault_211 (by decide) (fun z1636 tz1636 => ?_)
                                refine s_isub C dX10_conditionFault_212 (by omega) (fun z1637 tz1637 => ?_)
                                refine s_put (k := 49) C y71 fw_X10_260 fp_9_49 rfl dX10_conditionFault_213 ?_
                                refine s_aload_n C dX10_conditionFault_216 rfl ?_
                                refine s_callVV (st := []) C (c_X10_testEnds l ad (sV τ1634 71 49 z1637) (te o).tail (by show Int32.toInt z1637 = _; rw [List.length_tail]; omega) (Op_tail _ pτ1634) (by rw [List.length_tail]; omega)) cv_X10_266 y71 rfl rfl rfl ⟨by decide, by decide⟩ (Nat.le_of_ble_eq_true rfl) dX10_conditionFault_217 ?_
                                intro τ1639 h1640
                                have dτ1639 : Int32.toInt (τ1639.1 71 49) = (te (te o).tail).length := h1640.2
                                have pτ1639 : Op (τ1639.1 109) (te (te o).tail) := by rw [h1640.1.a 109 (by decide) (by decide)]; exact Op_te _ (Op_tail _ pτ1634)
                                have qτ1639 := te_len (te o).tail
                                have qqτ1639 : (te o).tail.length = (te o).length - 1 := List.length_tail
                                skip
                                refine s_iconst C dX10_conditionFault_220 (by decide) (fun z1641 tz1641 => ?_)
                                refine s_istore_n C dX10_conditionFault_221 (by decide) (Nat.le_of_ble_eq_true rfl) rfl ?_
                                show WP E ad 222 [some (.ref (ad 71)), some (.int z1641), some (.int z), some (.int (τ.1 86 z.toNatClampNeg))] [] τ1639
                                refine s_iinc C dX10_conditionFault_222 rfl (by decide) rfl (by decide) (by omega) (fun z1642 tz1642 => ?_)
                                show WP E ad 225 [some (.ref (ad 71)), some (.int z1641), some (.int z1642), some (.int (τ.1 86 z.toNatClampNeg))] [] τ1639
                                refine s_goto (tgt := 230) C dX10_conditionFault_225 (by decide) ?_
                                refine s_iload_n C dX10_conditionFault_230 rfl ?_
                                refine s_if_ge (tgt := 238) C dX10_conditionFault_231 (by decide) (fun q1643 => ?_) (fun q1643 => ?_)
                                · refine s_goto (tgt := 9) C dX10_conditionFault_238 (by decide) ?_
                                  refine wp_le (lv' := [some (.ref (ad 71)), some (.int z1641), some (.int z1642), none]) ⟨rfl, ⟨rfl, ⟨rfl, trivial⟩⟩⟩ ?_
                                  have ek1 : z1642.toInt.toNat = z.toInt.toNat + 1 := by omega
                                  exact ih τ1639 (te (te o).tail) z1641 z1642 (Fr.tr (Fr.sV (Fr.tr (Fr.tr Fr.rf (Fr.mo kF (by decide) (by decide))) (Fr.mo h1635.1 (by decide) (by decide))) (Or.inr (by decide))) (Fr.mo h1640.1 (by decide) (by decide))) dτ1639 pτ1639 (by omega) (by omega) (by omega) (fun ⟨f, hf⟩ => hac ⟨f + 1, Or.inr ⟨by omega, Or.inr (Or.inr (Or.inr (Or.inr (Or.inr ⟨by omega, by omega, mh1631.mp (by omega), (by rw [ek1, show z1641.toInt.toNat = 3 by omega] at hf; exact hf)⟩))))⟩⟩) (by omega)
                                · refine s_iconst C dX10_conditionFault_234 (by decide) (fun z1644 tz1644 => ?_)
                                  refine s_iload_n C dX10_conditionFault_235 rfl ?_
                                  refine s_isub C dX10_conditionFault_236 (by omega) (fun z1645 tz1645 => ?_)
                                  exact s_iret C X dX10_conditionFault_237 ⟨(Fr.tr (Fr.sV (Fr.tr (Fr.tr Fr.rf (Fr.mo kF (by decide) (by decide))) (Fr.mo h1635.1 (by decide) (by decide))) (Or.inr (by decide))) (Fr.mo h1640.1 (by decide) (by decide))), by omega, by omega, fun q => by omega⟩
                        · refine s_aload_n C dX10_conditionFault_172 rfl ?_
                          refine s_callVV (st := []) C (c_X10_testEnds l ad τ o hd ho (by omega)) cv_X10_266 y71 rfl rfl rfl ⟨by decide, by decide⟩ (Nat.le_of_ble_eq_true rfl) dX10_conditionFault_173 ?_
                          intro τ1647 h1648
                          have dτ1647 : Int32.toInt (τ1647.1 71 49) = (te o).length := h1648.2
                          have pτ1647 : Op (τ1647.1 109) (te o) := by rw [h1648.1.a 109 (by decide) (by decide)]; exact Op_te o ho
                          have qτ1647 := te_len o
                          skip
                          refine s_iconst C dX10_conditionFault_176 (by decide) (fun z1649 tz1649 => ?_)
                          refine s_istore_n C dX10_conditionFault_177 (by decide) (Nat.le_of_ble_eq_true rfl) rfl ?_
                          show WP E ad 178 [some (.ref (ad 71)), some (.int z1649), some (.int z), some (.int (τ.1 86 z.toNatClampNeg))] [] τ1647
                          refine s_iinc C dX10_conditionFault_178 rfl (by decide) rfl (by decide) (by omega) (fun z1650 tz1650 => ?_)
                          show WP E ad 181 [some (.ref (ad 71)), some (.int z1649), some (.int z1650), some (.int (τ.1 86 z.toNatClampNeg))] [] τ1647
                          refine s_goto (tgt := 230) C dX10_conditionFault_181 (by decide) ?_
                          refine s_iload_n C dX10_conditionFault_230 rfl ?_
                          refine s_if_ge (tgt := 238) C dX10_conditionFault_231 (by decide) (fun q1651 => ?_) (fun q1651 => ?_)
                          · refine s_goto (tgt := 9) C dX10_conditionFault_238 (by decide) ?_
                            refine wp_le (lv' := [some (.ref (ad 71)), some (.int z1649), some (.int z1650), none]) ⟨rfl, ⟨rfl, ⟨rfl, trivial⟩⟩⟩ ?_
                            have ek1 : z1650.toInt.toNat = z.toInt.toNat + 1 := by omega
                            exact ih τ1647 (te o) z1649 z1650 (Fr.tr (Fr.tr Fr.rf (Fr.mo kF (by decide) (by decide))) (Fr.mo h1648.1 (by decide) (by decide))) dτ1647 pτ1647 (by omega) (by omega) (by omega) (fun ⟨f, hf⟩ => hac ⟨f + 1, Or.inr ⟨by omega, Or.inr (Or.inr (Or.inr (Or.inr (Or.inl ⟨by omega, by omega, (by rw [ek1, show z1649.toInt.toNat = 0 by omega] at hf; exact hf)⟩))))⟩⟩) (by omega)
                          · refine s_iconst C dX10_conditionFault_234 (by decide) (fun z1652 tz1652 => ?_)
                            refine s_iload_n C dX10_conditionFault_235 rfl ?_
                            refine s_isub C dX10_conditionFault_236 (by omega) (fun z1653 tz1653 => ?_)
                            exact s_iret C X dX10_conditionFault_237 ⟨(Fr.tr (Fr.tr Fr.rf (Fr.mo kF (by decide) (by decide))) (Fr.mo h1648.1 (by decide) (by decide))), by omega, by omega, fun q => by omega⟩
                      · refine s_iload_n C dX10_conditionFault_161 rfl ?_
                        refine s_bipush C dX10_conditionFault_162 (by decide) (fun z1654 tz1654 => ?_)
                        refine s_icmp_ne (tgt := 184) C dX10_conditionFault_164 (by decide) (fun q1655 => ?_) (fun q1655 => ?_)
                        · refine s_iload_n C dX10_conditionFault_184 rfl ?_
                          refine s_bipush C dX10_conditionFault_185 (by decide) (fun z1656 tz1656 => ?_)
                          refine s_icmp_ne (tgt := 228) C dX10_conditionFault_187 (by decide) (fun q1657 => ?_) (fun q1657 => ?_)
                          · refine s_iload_n C dX10_conditionFault_228 rfl ?_
                            exact s_iret C X dX10_conditionFault_229 ⟨(Fr.tr Fr.rf (Fr.mo kF (by decide) (by decide))), by omega, by omega, fun q => by omega⟩
                          · refine s_iload_n C dX10_conditionFault_190 rfl ?_
                            refine s_iconst C dX10_conditionFault_191 (by decide) (fun z1658 tz1658 => ?_)
                            refine s_icmp_le (tgt := 228) C dX10_conditionFault_192 (by decide) (fun q1659 => ?_) (fun q1659 => ?_)
                            · refine s_iload_n C dX10_conditionFault_228 rfl ?_
                              exact s_iret C X dX10_conditionFault_229 ⟨(Fr.tr Fr.rf (Fr.mo kF (by decide) (by decide))), by omega, by omega, fun q => by omega⟩
                            · refine s_aload_n C dX10_conditionFault_195 rfl ?_
                              refine s_callVI (st := []) C (c_X10_isOpen l ad τ o hd ho (by omega)) cv_X10_269 y71 rfl rfl rfl ⟨by decide, by decide⟩ (Nat.le_of_ble_eq_true rfl) dX10_conditionFault_196 ?_
                              intro r1660 τ1661 h1662
                              obtain ⟨eh1662, h1662⟩ := h1662; replace eh1662 := eh1662.symm; subst eh1662
                              have mh1662 := h1662.2
                              refine s_if_eq (tgt := 228) C dX10_conditionFault_199 (by decide) (fun q1663 => ?_) (fun q1663 => ?_)
                              · refine s_iload_n C dX10_conditionFault_228 rfl ?_
                                exact s_iret C X dX10_conditionFault_229 ⟨(Fr.tr Fr.rf (Fr.mo kF (by decide) (by decide))), by omega, by omega, fun q => by omega⟩
                              · refine s_aload_n C dX10_conditionFault_202 rfl ?_
                                refine s_callVV (st := []) C (c_X10_testEnds l ad τ o hd ho (by omega)) cv_X10_266 y71 rfl rfl rfl ⟨by decide, by decide⟩ (Nat.le_of_ble_eq_true rfl) dX10_conditionFault_203 ?_
                                intro τ1665 h1666
                                have dτ1665 : Int32.toInt (τ1665.1 71 49) = (te o).length := h1666.2
                                have pτ1665 : Op (τ1665.1 109) (te o) := by rw [h1666.1.a 109 (by decide) (by decide)]; exact Op_te o ho
                                have qτ1665 := te_len o
                                obtain ⟨r6, hr6⟩ := te_hd (mh1662.mp (by omega))
                                have hl6 : 1 ≤ (te o).length := by rw [hr6]; simp
                                refine s_aload_n C dX10_conditionFault_206 rfl ?_
                                refine s_dup C dX10_conditionFault_207 rfl ?_
                                refine s_get (k := 49) (x := (τ1665.1 71 49)) C y71 fw_X10_260 rfl rfl dX10_conditionFault_208 ?_
                                refine s_iconst C dX10_conditionFault_211 (by decide) (fun z1667 tz1667 => ?_)
                                refine s_isub C dX10_conditionFault_212 (by omega) (fun z1668 tz1668 => ?_)
                                refine s_put (k := 49) C y71 fw_X10_260 fp_9_49 rfl dX10_conditionFault_213 ?_
                                refine s_aload_n C dX10_conditionFault_216 rfl ?_
                                refine s_callVV (st := []) C (c_X10_testEnds l ad (sV τ1665 71 49 z1668) (te o).tail (by show Int32.toInt z1668 = _; rw [List.length_tail]; omega) (Op_tail _ pτ1665) (by rw [List.length_tail]; omega)) cv_X10_266 y71 rfl rfl rfl ⟨by decide, by decide⟩ (Nat.le_of_ble_eq_true rfl) dX10_conditionFault_217 ?_
                                intro τ1670 h1671
                                have dτ1670 : Int32.toInt (τ1670.1 71 49) = (te (te o).tail).length := h1671.2
                                have pτ1670 : Op (τ1670.1 109) (te (te o).tail) := by rw [h1671.1.a 109 (by decide) (by decide)]; exact Op_te _ (Op_tail _ pτ1665)
                                have qτ1670 := te_len (te o).tail
                                have qqτ1670 : (te o).tail.length = (te o).length - 1 := List.length_tail
                                skip
                                refine s_iconst C dX10_conditionFault_220 (by decide) (fun z1672 tz1672 => ?_)
                                refine s_istore_n C dX10_conditionFault_221 (by decide) (Nat.le_of_ble_eq_true rfl) rfl ?_
                                show WP E ad 222 [some (.ref (ad 71)), some (.int z1672), some (.int z), some (.int (τ.1 86 z.toNatClampNeg))] [] τ1670
                                refine s_iinc C dX10_conditionFault_222 rfl (by decide) rfl (by decide) (by omega) (fun z1673 tz1673 => ?_)
                                show WP E ad 225 [some (.ref (ad 71)), some (.int z1672), some (.int z1673), some (.int (τ.1 86 z.toNatClampNeg))] [] τ1670
                                refine s_goto (tgt := 230) C dX10_conditionFault_225 (by decide) ?_
                                refine s_iload_n C dX10_conditionFault_230 rfl ?_
                                refine s_if_ge (tgt := 238) C dX10_conditionFault_231 (by decide) (fun q1674 => ?_) (fun q1674 => ?_)
                                · refine s_goto (tgt := 9) C dX10_conditionFault_238 (by decide) ?_
                                  refine wp_le (lv' := [some (.ref (ad 71)), some (.int z1672), some (.int z1673), none]) ⟨rfl, ⟨rfl, ⟨rfl, trivial⟩⟩⟩ ?_
                                  have ek1 : z1673.toInt.toNat = z.toInt.toNat + 1 := by omega
                                  exact ih τ1670 (te (te o).tail) z1672 z1673 (Fr.tr (Fr.sV (Fr.tr (Fr.tr Fr.rf (Fr.mo kF (by decide) (by decide))) (Fr.mo h1666.1 (by decide) (by decide))) (Or.inr (by decide))) (Fr.mo h1671.1 (by decide) (by decide))) dτ1670 pτ1670 (by omega) (by omega) (by omega) (fun ⟨f, hf⟩ => hac ⟨f + 1, Or.inr ⟨by omega, Or.inr (Or.inr (Or.inr (Or.inr (Or.inr ⟨by omega, by omega, mh1662.mp (by omega), (by rw [ek1, show z1672.toInt.toNat = 3 by omega] at hf; exact hf)⟩))))⟩⟩) (by omega)
                                · refine s_iconst C dX10_conditionFault_234 (by decide) (fun z1675 tz1675 => ?_)
                                  refine s_iload_n C dX10_conditionFault_235 rfl ?_
                                  refine s_isub C dX10_conditionFault_236 (by omega) (fun z1676 tz1676 => ?_)
                                  exact s_iret C X dX10_conditionFault_237 ⟨(Fr.tr (Fr.sV (Fr.tr (Fr.tr Fr.rf (Fr.mo kF (by decide) (by decide))) (Fr.mo h1666.1 (by decide) (by decide))) (Or.inr (by decide))) (Fr.mo h1671.1 (by decide) (by decide))), by omega, by omega, fun q => by omega⟩
                        · refine s_iload_n C dX10_conditionFault_167 rfl ?_
                          refine s_iconst C dX10_conditionFault_168 (by decide) (fun z1677 tz1677 => ?_)
                          refine s_icmp_le (tgt := 184) C dX10_conditionFault_169 (by decide) (fun q1678 => ?_) (fun q1678 => ?_)
                          · refine s_iload_n C dX10_conditionFault_184 rfl ?_
                            refine s_bipush C dX10_conditionFault_185 (by decide) (fun z1679 tz1679 => ?_)
                            refine s_icmp_ne (tgt := 228) C dX10_conditionFault_187 (by decide) (fun q1680 => ?_) (fun q1680 => ?_)
                            · refine s_iload_n C dX10_conditionFault_228 rfl ?_
                              exact s_iret C X dX10_conditionFault_229 ⟨(Fr.tr Fr.rf (Fr.mo kF (by decide) (by decide))), by omega, by omega, fun q => by omega⟩
                            · refine s_iload_n C dX10_conditionFault_190 rfl ?_
                              refine s_iconst C dX10_conditionFault_191 (by decide) (fun z1681 tz1681 => ?_)
                              refine s_icmp_le (tgt := 228) C dX10_conditionFault_192 (by decide) (fun q1682 => ?_) (fun q1682 => ?_)
                              · refine s_iload_n C dX10_conditionFault_228 rfl ?_
                                exact s_iret C X dX10_conditionFault_229 ⟨(Fr.tr Fr.rf (Fr.mo kF (by decide) (by decide))), by omega, by omega, fun q => by omega⟩
                              · refine s_aload_n C dX10_conditionFault_195 rfl ?_
                                refine s_callVI (st := []) C (c_X10_isOpen l ad τ o hd ho (by omega)) cv_X10_269 y71 rfl rfl rfl ⟨by decide, by decide⟩ (Nat.le_of_ble_eq_true rfl) dX10_conditionFault_196 ?_
                                intro r1683 τ1684 h1685
                                obtain ⟨eh1685, h1685⟩ := h1685; replace eh1685 := eh1685.symm; subst eh1685
                                have mh1685 := h1685.2
                                refine s_if_eq (tgt := 228) C dX10_conditionFault_199 (by decide) (fun q1686 => ?_) (fun q1686 => ?_)
                                · refine s_iload_n C dX10_conditionFault_228 rfl ?_
                                  exact s_iret C X dX10_conditionFault_229 ⟨(Fr.tr Fr.rf (Fr.mo kF (by decide) (by decide))), by omega, by omega, fun q => by omega⟩
                                · refine s_aload_n C dX10_conditionFault_202 rfl ?_
                                  refine s_callVV (st := []) C (c_X10_testEnds l ad τ o hd ho (by omega)) cv_X10_266 y71 rfl rfl rfl ⟨by decide, by decide⟩ (Nat.le_of_ble_eq_true rfl) dX10_conditionFault_203 ?_
                                  intro τ1688 h1689
                                  have dτ1688 : Int32.toInt (τ1688.1 71 49) = (te o).length := h1689.2
                                  have pτ1688 : Op (τ1688.1 109) (te o) := by rw [h1689.1.a 109 (by decide) (by decide)]; exact Op_te o ho
                                  have qτ1688 := te_len o
                                  obtain ⟨r6, hr6⟩ := te_hd (mh1685.mp (by omega))
                                  have hl6 : 1 ≤ (te o).length := by rw [hr6]; simp
                                  refine s_aload_n C dX10_conditionFault_206 rfl ?_
                                  refine s_dup C dX10_conditionFault_207 rfl ?_
                                  refine s_get (k := 49) (x := (τ1688.1 71 49)) C y71 fw_X10_260 rfl rfl dX10_conditionFault_208 ?_
                                  refine s_iconst C dX10_conditionFault_211 (by decide) (fun z1690 tz1690 => ?_)
                                  refine s_isub C dX10_conditionFault_212 (by omega) (fun z1691 tz1691 => ?_)
                                  refine s_put (k := 49) C y71 fw_X10_260 fp_9_49 rfl dX10_conditionFault_213 ?_
                                  refine s_aload_n C dX10_conditionFault_216 rfl ?_
                                  refine s_callVV (st := []) C (c_X10_testEnds l ad (sV τ1688 71 49 z1691) (te o).tail (by show Int32.toInt z1691 = _; rw [List.length_tail]; omega) (Op_tail _ pτ1688) (by rw [List.length_tail]; omega)) cv_X10_266 y71 rfl rfl rfl ⟨by decide, by decide⟩ (Nat.le_of_ble_eq_true rfl) dX10_conditionFault_217 ?_
                                  intro τ1693 h1694
                                  have dτ1693 : Int32.toInt (τ1693.1 71 49) = (te (te o).tail).length := h1694.2
                                  have pτ1693 : Op (τ1693.1 109) (te (te o).tail) := by rw [h1694.1.a 109 (by decide) (by decide)]; exact Op_te _ (Op_tail _ pτ1688)
                                  have qτ1693 := te_len (te o).tail
                                  have qqτ1693 : (te o).tail.length = (te o).length - 1 := List.length_tail
                                  skip
                                  refine s_iconst C dX10_conditionFault_220 (by decide) (fun z1695 tz1695 => ?_)
                                  refine s_istore_n C dX10_conditionFault_221 (by decide) (Nat.le_of_ble_eq_true rfl) rfl ?_
                                  show WP E ad 222 [some (.ref (ad 71)), some (.int z1695), some (.int z), some (.int (τ.1 86 z.toNatClampNeg))] [] τ1693
                                  refine s_iinc C dX10_conditionFault_222 rfl (by decide) rfl (by decide) (by omega) (fun z1696 tz1696 => ?_)
                                  show WP E ad 225 [some (.ref (ad 71)), some (.int z1695), some (.int z1696), some (.int (τ.1 86 z.toNatClampNeg))] [] τ1693
                                  refine s_goto (tgt := 230) C dX10_conditionFault_225 (by decide) ?_
                                  refine s_iload_n C dX10_conditionFault_230 rfl ?_
                                  refine s_if_ge (tgt := 238) C dX10_conditionFault_231 (by decide) (fun q1697 => ?_) (fun q1697 => ?_)
                                  · refine s_goto (tgt := 9) C dX10_conditionFault_238 (by decide) ?_
                                    refine wp_le (lv' := [some (.ref (ad 71)), some (.int z1695), some (.int z1696), none]) ⟨rfl, ⟨rfl, ⟨rfl, trivial⟩⟩⟩ ?_
                                    have ek1 : z1696.toInt.toNat = z.toInt.toNat + 1 := by omega
                                    exact ih τ1693 (te (te o).tail) z1695 z1696 (Fr.tr (Fr.sV (Fr.tr (Fr.tr Fr.rf (Fr.mo kF (by decide) (by decide))) (Fr.mo h1689.1 (by decide) (by decide))) (Or.inr (by decide))) (Fr.mo h1694.1 (by decide) (by decide))) dτ1693 pτ1693 (by omega) (by omega) (by omega) (fun ⟨f, hf⟩ => hac ⟨f + 1, Or.inr ⟨by omega, Or.inr (Or.inr (Or.inr (Or.inr (Or.inr ⟨by omega, by omega, mh1685.mp (by omega), (by rw [ek1, show z1695.toInt.toNat = 3 by omega] at hf; exact hf)⟩))))⟩⟩) (by omega)
                                  · refine s_iconst C dX10_conditionFault_234 (by decide) (fun z1698 tz1698 => ?_)
                                    refine s_iload_n C dX10_conditionFault_235 rfl ?_
                                    refine s_isub C dX10_conditionFault_236 (by omega) (fun z1699 tz1699 => ?_)
                                    exact s_iret C X dX10_conditionFault_237 ⟨(Fr.tr (Fr.sV (Fr.tr (Fr.tr Fr.rf (Fr.mo kF (by decide) (by decide))) (Fr.mo h1689.1 (by decide) (by decide))) (Or.inr (by decide))) (Fr.mo h1694.1 (by decide) (by decide))), by omega, by omega, fun q => by omega⟩
                          · refine s_aload_n C dX10_conditionFault_172 rfl ?_
                            refine s_callVV (st := []) C (c_X10_testEnds l ad τ o hd ho (by omega)) cv_X10_266 y71 rfl rfl rfl ⟨by decide, by decide⟩ (Nat.le_of_ble_eq_true rfl) dX10_conditionFault_173 ?_
                            intro τ1701 h1702
                            have dτ1701 : Int32.toInt (τ1701.1 71 49) = (te o).length := h1702.2
                            have pτ1701 : Op (τ1701.1 109) (te o) := by rw [h1702.1.a 109 (by decide) (by decide)]; exact Op_te o ho
                            have qτ1701 := te_len o
                            skip
                            refine s_iconst C dX10_conditionFault_176 (by decide) (fun z1703 tz1703 => ?_)
                            refine s_istore_n C dX10_conditionFault_177 (by decide) (Nat.le_of_ble_eq_true rfl) rfl ?_
                            show WP E ad 178 [some (.ref (ad 71)), some (.int z1703), some (.int z), some (.int (τ.1 86 z.toNatClampNeg))] [] τ1701
                            refine s_iinc C dX10_conditionFault_178 rfl (by decide) rfl (by decide) (by omega) (fun z1704 tz1704 => ?_)
                            show WP E ad 181 [some (.ref (ad 71)), some (.int z1703), some (.int z1704), some (.int (τ.1 86 z.toNatClampNeg))] [] τ1701
                            refine s_goto (tgt := 230) C dX10_conditionFault_181 (by decide) ?_
                            refine s_iload_n C dX10_conditionFault_230 rfl ?_
                            refine s_if_ge (tgt := 238) C dX10_conditionFault_231 (by decide) (fun q1705 => ?_) (fun q1705 => ?_)
                            · refine s_goto (tgt := 9) C dX10_conditionFault_238 (by decide) ?_
                              refine wp_le (lv' := [some (.ref (ad 71)), some (.int z1703), some (.int z1704), none]) ⟨rfl, ⟨rfl, ⟨rfl, trivial⟩⟩⟩ ?_
                              have ek1 : z1704.toInt.toNat = z.toInt.toNat + 1 := by omega
                              exact ih τ1701 (te o) z1703 z1704 (Fr.tr (Fr.tr Fr.rf (Fr.mo kF (by decide) (by decide))) (Fr.mo h1702.1 (by decide) (by decide))) dτ1701 pτ1701 (by omega) (by omega) (by omega) (fun ⟨f, hf⟩ => hac ⟨f + 1, Or.inr ⟨by omega, Or.inr (Or.inr (Or.inr (Or.inr (Or.inl ⟨by omega, by omega, (by rw [ek1, show z1703.toInt.toNat = 0 by omega] at hf; exact hf)⟩))))⟩⟩) (by omega)
                            · refine s_iconst C dX10_conditionFault_234 (by decide) (fun z1706 tz1706 => ?_)
                              refine s_iload_n C dX10_conditionFault_235 rfl ?_
                              refine s_isub C dX10_conditionFault_236 (by omega) (fun z1707 tz1707 => ?_)
                              exact s_iret C X dX10_conditionFault_237 ⟨(Fr.tr (Fr.tr Fr.rf (Fr.mo kF (by decide) (by decide))) (Fr.mo h1702.1 (by decide) (by decide))), by omega, by omega, fun q => by omega⟩
                    · refine s_aload_n C dX10_conditionFault_142 rfl ?_
                      refine s_iload_n C dX10_conditionFault_143 rfl ?_
                      refine s_iconst C dX10_conditionFault_144 (by decide) (fun z1708 tz1708 => ?_)
                      refine s_iadd C dX10_conditionFault_145 (by omega) (fun z1709 tz1709 => ?_)
                      refine s_callVI (st := []) C (c_X10_behindUnit l ad τ z1709 (by omega) (by omega) (by omega)) cv_X10_263 y71 rfl rfl rfl ⟨by decide, by decide⟩ (Nat.le_of_ble_eq_true rfl) dX10_conditionFault_146 ?_
                      intro r1710 τ1711 h1712
                      obtain ⟨eh1712, h1712⟩ := h1712; replace eh1712 := eh1712.symm; subst eh1712
                      have uh1712 := h1712.2.2
                      rw [f0, f17, e86] at uh1712
                      have vh1712 : 0 ≤ Int32.toInt r1710 → Int32.toInt r1710 ≤ Int32.toInt (σ.1 71 17) := fun q => by have := un_le (uh1712 q).2; omega
                      skip
                      refine s_istore_n C dX10_conditionFault_149 (by decide) (Nat.le_of_ble_eq_true rfl) rfl ?_
                      show WP E ad 150 [some (.ref (ad 71)), some (.int y), some (.int r1710), some (.int (τ.1 86 z.toNatClampNeg))] [] τ
                      refine s_iconst C dX10_conditionFault_150 (by decide) (fun z1713 tz1713 => ?_)
                      refine s_istore_n C dX10_conditionFault_151 (by decide) (Nat.le_of_ble_eq_true rfl) rfl ?_
                      show WP E ad 152 [some (.ref (ad 71)), some (.int z1713), some (.int r1710), some (.int (τ.1 86 z.toNatClampNeg))] [] τ
                      refine s_goto (tgt := 230) C dX10_conditionFault_152 (by decide) ?_
                      refine s_iload_n C dX10_conditionFault_230 rfl ?_
                      refine s_if_ge (tgt := 238) C dX10_conditionFault_231 (by decide) (fun q1714 => ?_) (fun q1714 => ?_)
                      · refine s_goto (tgt := 9) C dX10_conditionFault_238 (by decide) ?_
                        refine wp_le (lv' := [some (.ref (ad 71)), some (.int z1713), some (.int r1710), none]) ⟨rfl, ⟨rfl, ⟨rfl, trivial⟩⟩⟩ ?_
                        have ez1 : z1709.toInt.toNat = z.toInt.toNat + 1 := by omega
                        rw [ez1] at uh1712
                        exact ih τ o z1713 r1710 (Fr.tr Fr.rf (Fr.mo kF (by decide) (by decide))) hd ho (by omega) (by omega) (by omega) (fun ⟨f, hf⟩ => hac ⟨f + 1, Or.inr ⟨by omega, Or.inr (Or.inr (Or.inr (Or.inl ⟨by omega, by omega, _, (uh1712 (by omega)).2, (by rw [show z1713.toInt.toNat = 2 by omega] at hf; exact hf)⟩)))⟩⟩) (by omega)
                      · refine s_iconst C dX10_conditionFault_234 (by decide) (fun z1715 tz1715 => ?_)
                        refine s_iload_n C dX10_conditionFault_235 rfl ?_
                        refine s_isub C dX10_conditionFault_236 (by omega) (fun z1716 tz1716 => ?_)
                        exact s_iret C X dX10_conditionFault_237 ⟨(Fr.tr Fr.rf (Fr.mo kF (by decide) (by decide))), by omega, by omega, fun q => by omega⟩
                  · refine s_iload_n C dX10_conditionFault_125 rfl ?_
                    refine s_bipush C dX10_conditionFault_126 (by decide) (fun z1717 tz1717 => ?_)
                    refine s_icmp_eq (tgt := 137) C dX10_conditionFault_128 (by decide) (fun q1718 => ?_) (fun q1718 => ?_)
                    · refine s_iload_n C dX10_conditionFault_137 rfl ?_
                      refine s_iconst C dX10_conditionFault_138 (by decide) (fun z1719 tz1719 => ?_)
                      refine s_icmp_ne (tgt := 155) C dX10_conditionFault_139 (by decide) (fun q1720 => ?_) (fun q1720 => ?_)
                      · refine s_iload_n C dX10_conditionFault_155 rfl ?_
                        refine s_bipush C dX10_conditionFault_156 (by decide) (fun z1721 tz1721 => ?_)
                        refine s_icmp_eq (tgt := 167) C dX10_conditionFault_158 (by decide) (fun q1722 => ?_) (fun q1722 => ?_)
                        · refine s_iload_n C dX10_conditionFault_167 rfl ?_
                          refine s_iconst C dX10_conditionFault_168 (by decide) (fun z1723 tz1723 => ?_)
                          refine s_icmp_le (tgt := 184) C dX10_conditionFault_169 (by decide) (fun q1724 => ?_) (fun q1724 => ?_)
                          · refine s_iload_n C dX10_conditionFault_184 rfl ?_
                            refine s_bipush C dX10_conditionFault_185 (by decide) (fun z1725 tz1725 => ?_)
                            refine s_icmp_ne (tgt := 228) C dX10_conditionFault_187 (by decide) (fun q1726 => ?_) (fun q1726 => ?_)
                            · refine s_iload_n C dX10_conditionFault_228 rfl ?_
                              exact s_iret C X dX10_conditionFault_229 ⟨(Fr.tr Fr.rf (Fr.mo kF (by decide) (by decide))), by omega, by omega, fun q => by omega⟩
                            · refine s_iload_n C dX10_conditionFault_190 rfl ?_
                              refine s_iconst C dX10_conditionFault_191 (by decide) (fun z1727 tz1727 => ?_)
                              refine s_icmp_le (tgt := 228) C dX10_conditionFault_192 (by decide) (fun q1728 => ?_) (fun q1728 => ?_)
                              · refine s_iload_n C dX10_conditionFault_228 rfl ?_
                                exact s_iret C X dX10_conditionFault_229 ⟨(Fr.tr Fr.rf (Fr.mo kF (by decide) (by decide))), by omega, by omega, fun q => by omega⟩
                              · refine s_aload_n C dX10_conditionFault_195 rfl ?_
                                refine s_callVI (st := []) C (c_X10_isOpen l ad τ o hd ho (by omega)) cv_X10_269 y71 rfl rfl rfl ⟨by decide, by decide⟩ (Nat.le_of_ble_eq_true rfl) dX10_conditionFault_196 ?_
                                intro r1729 τ1730 h1731
                                obtain ⟨eh1731, h1731⟩ := h1731; replace eh1731 := eh1731.symm; subst eh1731
                                have mh1731 := h1731.2
                                refine s_if_eq (tgt := 228) C dX10_conditionFault_199 (by decide) (fun q1732 => ?_) (fun q1732 => ?_)
                                · refine s_iload_n C dX10_conditionFault_228 rfl ?_
                                  exact s_iret C X dX10_conditionFault_229 ⟨(Fr.tr Fr.rf (Fr.mo kF (by decide) (by decide))), by omega, by omega, fun q => by omega⟩
                                · refine s_aload_n C dX10_conditionFault_202 rfl ?_
                                  refine s_callVV (st := []) C (c_X10_testEnds l ad τ o hd ho (by omega)) cv_X10_266 y71 rfl rfl rfl ⟨by decide, by decide⟩ (Nat.le_of_ble_eq_true rfl) dX10_conditionFault_203 ?_
                                  intro τ1734 h1735
                                  have dτ1734 : Int32.toInt (τ1734.1 71 49) = (te o).length := h1735.2
                                  have pτ1734 : Op (τ1734.1 109) (te o) := by rw [h1735.1.a 109 (by decide) (by decide)]; exact Op_te o ho
                                  have qτ1734 := te_len o
                                  obtain ⟨r6, hr6⟩ := te_hd (mh1731.mp (by omega))
                                  have hl6 : 1 ≤ (te o).length := by rw [hr6]; simp
                                  refine s_aload_n C dX10_conditionFault_206 rfl ?_
                                  refine s_dup C dX10_conditionFault_207 rfl ?_
                                  refine s_get (k := 49) (x := (τ1734.1 71 49)) C y71 fw_X10_260 rfl rfl dX10_conditionFault_208 ?_
                                  refine s_iconst C dX10_conditionFault_211 (by decide) (fun z1736 tz1736 => ?_)
                                  refine s_isub C dX10_conditionFault_212 (by omega) (fun z1737 tz1737 => ?_)
                                  refine s_put (k := 49) C y71 fw_X10_260 fp_9_49 rfl dX10_conditionFault_213 ?_
                                  refine s_aload_n C dX10_conditionFault_216 rfl ?_
                                  refine s_callVV (st := []) C (c_X10_testEnds l ad (sV τ1734 71 49 z1737) (te o).tail (by show Int32.toInt z1737 = _; rw [List.length_tail]; omega) (Op_tail _ pτ1734) (by rw [List.length_tail]; omega)) cv_X10_266 y71 rfl rfl rfl ⟨by decide, by decide⟩ (Nat.le_of_ble_eq_true rfl) dX10_conditionFault_217 ?_
                                  intro τ1739 h1740
                                  have dτ1739 : Int32.toInt (τ1739.1 71 49) = (te (te o).tail).length := h1740.2
                                  have pτ1739 : Op (τ1739.1 109) (te (te o).tail) := by rw [h1740.1.a 109 (by decide) (by decide)]; exact Op_te _ (Op_tail _ pτ1734)
                                  have qτ1739 := te_len (te o).tail
                                  have qqτ1739 : (te o).tail.length = (te o).length - 1 := List.length_tail
                                  skip
                                  refine s_iconst C dX10_conditionFault_220 (by decide) (fun z1741 tz1741 => ?_)
                                  refine s_istore_n C dX10_conditionFault_221 (by decide) (Nat.le_of_ble_eq_true rfl) rfl ?_
                                  show WP E ad 222 [some (.ref (ad 71)), some (.int z1741), some (.int z), some (.int (τ.1 86 z.toNatClampNeg))] [] τ1739
                                  refine s_iinc C dX10_conditionFault_222 rfl (by decide) rfl (by decide) (by omega) (fun z1742 tz1742 => ?_)
                                  show WP E ad 225 [some (.ref (ad 71)), some (.int z1741), some (.int z1742), some (.int (τ.1 86 z.toNatClampNeg))] [] τ1739
                                  refine s_goto (tgt := 230) C dX10_conditionFault_225 (by decide) ?_
                                  refine s_iload_n C dX10_conditionFault_230 rfl ?_
                                  refine s_if_ge (tgt := 238) C dX10_conditionFault_231 (by decide) (fun q1743 => ?_) (fun q1743 => ?_)
                                  · refine s_goto (tgt := 9) C dX10_conditionFault_238 (by decide) ?_
                                    refine wp_le (lv' := [some (.ref (ad 71)), some (.int z1741), some (.int z1742), none]) ⟨rfl, ⟨rfl, ⟨rfl, trivial⟩⟩⟩ ?_
                                    have ek1 : z1742.toInt.toNat = z.toInt.toNat + 1 := by omega
                                    exact ih τ1739 (te (te o).tail) z1741 z1742 (Fr.tr (Fr.sV (Fr.tr (Fr.tr Fr.rf (Fr.mo kF (by decide) (by decide))) (Fr.mo h1735.1 (by decide) (by decide))) (Or.inr (by decide))) (Fr.mo h1740.1 (by decide) (by decide))) dτ1739 pτ1739 (by omega) (by omega) (by omega) (fun ⟨f, hf⟩ => hac ⟨f + 1, Or.inr ⟨by omega, Or.inr (Or.inr (Or.inr (Or.inr (Or.inr ⟨by omega, by omega, mh1731.mp (by omega), (by rw [ek1, show z1741.toInt.toNat = 3 by omega] at hf; exact hf)⟩))))⟩⟩) (by omega)
                                  · refine s_iconst C dX10_conditionFault_234 (by decide) (fun z1744 tz1744 => ?_)
                                    refine s_iload_n C dX10_conditionFault_235 rfl ?_
                                    refine s_isub C dX10_conditionFault_236 (by omega) (fun z1745 tz1745 => ?_)
                                    exact s_iret C X dX10_conditionFault_237 ⟨(Fr.tr (Fr.sV (Fr.tr (Fr.tr Fr.rf (Fr.mo kF (by decide) (by decide))) (Fr.mo h1735.1 (by decide) (by decide))) (Or.inr (by decide))) (Fr.mo h1740.1 (by decide) (by decide))), by omega, by omega, fun q => by omega⟩
                          · refine s_aload_n C dX10_conditionFault_172 rfl ?_
                            refine s_callVV (st := []) C (c_X10_testEnds l ad τ o hd ho (by omega)) cv_X10_266 y71 rfl rfl rfl ⟨by decide, by decide⟩ (Nat.le_of_ble_eq_true rfl) dX10_conditionFault_173 ?_
                            intro τ1747 h1748
                            have dτ1747 : Int32.toInt (τ1747.1 71 49) = (te o).length := h1748.2
                            have pτ1747 : Op (τ1747.1 109) (te o) := by rw [h1748.1.a 109 (by decide) (by decide)]; exact Op_te o ho
                            have qτ1747 := te_len o
                            skip
                            refine s_iconst C dX10_conditionFault_176 (by decide) (fun z1749 tz1749 => ?_)
                            refine s_istore_n C dX10_conditionFault_177 (by decide) (Nat.le_of_ble_eq_true rfl) rfl ?_
                            show WP E ad 178 [some (.ref (ad 71)), some (.int z1749), some (.int z), some (.int (τ.1 86 z.toNatClampNeg))] [] τ1747
                            refine s_iinc C dX10_conditionFault_178 rfl (by decide) rfl (by decide) (by omega) (fun z1750 tz1750 => ?_)
                            show WP E ad 181 [some (.ref (ad 71)), some (.int z1749), some (.int z1750), some (.int (τ.1 86 z.toNatClampNeg))] [] τ1747
                            refine s_goto (tgt := 230) C dX10_conditionFault_181 (by decide) ?_
                            refine s_iload_n C dX10_conditionFault_230 rfl ?_
                            refine s_if_ge (tgt := 238) C dX10_conditionFault_231 (by decide) (fun q1751 => ?_) (fun q1751 => ?_)
                            · refine s_goto (tgt := 9) C dX10_conditionFault_238 (by decide) ?_
                              refine wp_le (lv' := [some (.ref (ad 71)), some (.int z1749), some (.int z1750), none]) ⟨rfl, ⟨rfl, ⟨rfl, trivial⟩⟩⟩ ?_
                              have ek1 : z1750.toInt.toNat = z.toInt.toNat + 1 := by omega
                              exact ih τ1747 (te o) z1749 z1750 (Fr.tr (Fr.tr Fr.rf (Fr.mo kF (by decide) (by decide))) (Fr.mo h1748.1 (by decide) (by decide))) dτ1747 pτ1747 (by omega) (by omega) (by omega) (fun ⟨f, hf⟩ => hac ⟨f + 1, Or.inr ⟨by omega, Or.inr (Or.inr (Or.inr (Or.inr (Or.inl ⟨by omega, by omega, (by rw [ek1, show z1749.toInt.toNat = 0 by omega] at hf; exact hf)⟩))))⟩⟩) (by omega)
                            · refine s_iconst C dX10_conditionFault_234 (by decide) (fun z1752 tz1752 => ?_)
                              refine s_iload_n C dX10_conditionFault_235 rfl ?_
                              refine s_isub C dX10_conditionFault_236 (by omega) (fun z1753 tz1753 => ?_)
                              exact s_iret C X dX10_conditionFault_237 ⟨(Fr.tr (Fr.tr Fr.rf (Fr.mo kF (by decide) (by decide))) (Fr.mo h1748.1 (by decide) (by decide))), by omega, by omega, fun q => by omega⟩
                        · refine s_iload_n C dX10_conditionFault_161 rfl ?_
                          refine s_bipush C dX10_conditionFault_162 (by decide) (fun z1754 tz1754 => ?_)
                          refine s_icmp_ne (tgt := 184) C dX10_conditionFault_164 (by decide) (fun q1755 => ?_) (fun q1755 => ?_)
                          · refine s_iload_n C dX10_conditionFault_184 rfl ?_
                            refine s_bipush C dX10_conditionFault_185 (by decide) (fun z1756 tz1756 => ?_)
                            refine s_icmp_ne (tgt := 228) C dX10_conditionFault_187 (by decide) (fun q1757 => ?_) (fun q1757 => ?_)
                            · refine s_iload_n C dX10_conditionFault_228 rfl ?_
                              exact s_iret C X dX10_conditionFault_229 ⟨(Fr.tr Fr.rf (Fr.mo kF (by decide) (by decide))), by omega, by omega, fun q => by omega⟩
                            · refine s_iload_n C dX10_conditionFault_190 rfl ?_
                              refine s_iconst C dX10_conditionFault_191 (by decide) (fun z1758 tz1758 => ?_)
                              refine s_icmp_le (tgt := 228) C dX10_conditionFault_192 (by decide) (fun q1759 => ?_) (fun q1759 => ?_)
                              · refine s_iload_n C dX10_conditionFault_228 rfl ?_
                                exact s_iret C X dX10_conditionFault_229 ⟨(Fr.tr Fr.rf (Fr.mo kF (by decide) (by decide))), by omega, by omega, fun q => by omega⟩
                              · refine s_aload_n C dX10_conditionFault_195 rfl ?_
                                refine s_callVI (st := []) C (c_X10_isOpen l ad τ o hd ho (by omega)) cv_X10_269 y71 rfl rfl rfl ⟨by decide, by decide⟩ (Nat.le_of_ble_eq_true rfl) dX10_conditionFault_196 ?_
                                intro r1760 τ1761 h1762
                                obtain ⟨eh1762, h1762⟩ := h1762; replace eh1762 := eh1762.symm; subst eh1762
                                have mh1762 := h1762.2
                                refine s_if_eq (tgt := 228) C dX10_conditionFault_199 (by decide) (fun q1763 => ?_) (fun q1763 => ?_)
                                · refine s_iload_n C dX10_conditionFault_228 rfl ?_
                                  exact s_iret C X dX10_conditionFault_229 ⟨(Fr.tr Fr.rf (Fr.mo kF (by decide) (by decide))), by omega, by omega, fun q => by omega⟩
                                · refine s_aload_n C dX10_conditionFault_202 rfl ?_
                                  refine s_callVV (st := []) C (c_X10_testEnds l ad τ o hd ho (by omega)) cv_X10_266 y71 rfl rfl rfl ⟨by decide, by decide⟩ (Nat.le_of_ble_eq_true rfl) dX10_conditionFault_203 ?_
                                  intro τ1765 h1766
                                  have dτ1765 : Int32.toInt (τ1765.1 71 49) = (te o).length := h1766.2
                                  have pτ1765 : Op (τ1765.1 109) (te o) := by rw [h1766.1.a 109 (by decide) (by decide)]; exact Op_te o ho
                                  have qτ1765 := te_len o
                                  obtain ⟨r6, hr6⟩ := te_hd (mh1762.mp (by omega))
                                  have hl6 : 1 ≤ (te o).length := by rw [hr6]; simp
                                  refine s_aload_n C dX10_conditionFault_206 rfl ?_
                                  refine s_dup C dX10_conditionFault_207 rfl ?_
                                  refine s_get (k := 49) (x := (τ1765.1 71 49)) C y71 fw_X10_260 rfl rfl dX10_conditionFault_208 ?_
                                  refine s_iconst C dX10_conditionFault_211 (by decide) (fun z1767 tz1767 => ?_)
                                  refine s_isub C dX10_conditionFault_212 (by omega) (fun z1768 tz1768 => ?_)
                                  refine s_put (k := 49) C y71 fw_X10_260 fp_9_49 rfl dX10_conditionFault_213 ?_
                                  refine s_aload_n C dX10_conditionFault_216 rfl ?_
                                  refine s_callVV (st := []) C (c_X10_testEnds l ad (sV τ1765 71 49 z1768) (te o).tail (by show Int32.toInt z1768 = _; rw [List.length_tail]; omega) (Op_tail _ pτ1765) (by rw [List.length_tail]; omega)) cv_X10_266 y71 rfl rfl rfl ⟨by decide, by decide⟩ (Nat.le_of_ble_eq_true rfl) dX10_conditionFault_217 ?_
                                  intro τ1770 h1771
                                  have dτ1770 : Int32.toInt (τ1770.1 71 49) = (te (te o).tail).length := h1771.2
                                  have pτ1770 : Op (τ1770.1 109) (te (te o).tail) := by rw [h1771.1.a 109 (by decide) (by decide)]; exact Op_te _ (Op_tail _ pτ1765)
                                  have qτ1770 := te_len (te o).tail
                                  have qqτ1770 : (te o).tail.length = (te o).length - 1 := List.length_tail
                                  skip
                                  refine s_iconst C dX10_conditionFault_220 (by decide) (fun z1772 tz1772 => ?_)
                                  refine s_istore_n C dX10_conditionFault_221 (by decide) (Nat.le_of_ble_eq_true rfl) rfl ?_
                                  show WP E ad 222 [some (.ref (ad 71)), some (.int z1772), some (.int z), some (.int (τ.1 86 z.toNatClampNeg))] [] τ1770
                                  refine s_iinc C dX10_conditionFault_222 rfl (by decide) rfl (by decide) (by omega) (fun z1773 tz1773 => ?_)
                                  show WP E ad 225 [some (.ref (ad 71)), some (.int z1772), some (.int z1773), some (.int (τ.1 86 z.toNatClampNeg))] [] τ1770
                                  refine s_goto (tgt := 230) C dX10_conditionFault_225 (by decide) ?_
                                  refine s_iload_n C dX10_conditionFault_230 rfl ?_
                                  refine s_if_ge (tgt := 238) C dX10_conditionFault_231 (by decide) (fun q1774 => ?_) (fun q1774 => ?_)
                                  · refine s_goto (tgt := 9) C dX10_conditionFault_238 (by decide) ?_
                                    refine wp_le (lv' := [some (.ref (ad 71)), some (.int z1772), some (.int z1773), none]) ⟨rfl, ⟨rfl, ⟨rfl, trivial⟩⟩⟩ ?_
                                    have ek1 : z1773.toInt.toNat = z.toInt.toNat + 1 := by omega
                                    exact ih τ1770 (te (te o).tail) z1772 z1773 (Fr.tr (Fr.sV (Fr.tr (Fr.tr Fr.rf (Fr.mo kF (by decide) (by decide))) (Fr.mo h1766.1 (by decide) (by decide))) (Or.inr (by decide))) (Fr.mo h1771.1 (by decide) (by decide))) dτ1770 pτ1770 (by omega) (by omega) (by omega) (fun ⟨f, hf⟩ => hac ⟨f + 1, Or.inr ⟨by omega, Or.inr (Or.inr (Or.inr (Or.inr (Or.inr ⟨by omega, by omega, mh1762.mp (by omega), (by rw [ek1, show z1772.toInt.toNat = 3 by omega] at hf; exact hf)⟩))))⟩⟩) (by omega)
                                  · refine s_iconst C dX10_conditionFault_234 (by decide) (fun z1775 tz1775 => ?_)
                                    refine s_iload_n C dX10_conditionFault_235 rfl ?_
                                    refine s_isub C dX10_conditionFault_236 (by omega) (fun z1776 tz1776 => ?_)
                                    exact s_iret C X dX10_conditionFault_237 ⟨(Fr.tr (Fr.sV (Fr.tr (Fr.tr Fr.rf (Fr.mo kF (by decide) (by decide))) (Fr.mo h1766.1 (by decide) (by decide))) (Or.inr (by decide))) (Fr.mo h1771.1 (by decide) (by decide))), by omega, by omega, fun q => by omega⟩
                          · refine s_iload_n C dX10_conditionFault_167 rfl ?_
                            refine s_iconst C dX10_conditionFault_168 (by decide) (fun z1777 tz1777 => ?_)
                            refine s_icmp_le (tgt := 184) C dX10_conditionFault_169 (by decide) (fun q1778 => ?_) (fun q1778 => ?_)
                            · refine s_iload_n C dX10_conditionFault_184 rfl ?_
                              refine s_bipush C dX10_conditionFault_185 (by decide) (fun z1779 tz1779 => ?_)
                              refine s_icmp_ne (tgt := 228) C dX10_conditionFault_187 (by decide) (fun q1780 => ?_) (fun q1780 => ?_)
                              · refine s_iload_n C dX10_conditionFault_228 rfl ?_
                                exact s_iret C X dX10_conditionFault_229 ⟨(Fr.tr Fr.rf (Fr.mo kF (by decide) (by decide))), by omega, by omega, fun q => by omega⟩
                              · refine s_iload_n C dX10_conditionFault_190 rfl ?_
                                refine s_iconst C dX10_conditionFault_191 (by decide) (fun z1781 tz1781 => ?_)
                                refine s_icmp_le (tgt := 228) C dX10_conditionFault_192 (by decide) (fun q1782 => ?_) (fun q1782 => ?_)
                                · refine s_iload_n C dX10_conditionFault_228 rfl ?_
                                  exact s_iret C X dX10_conditionFault_229 ⟨(Fr.tr Fr.rf (Fr.mo kF (by decide) (by decide))), by omega, by omega, fun q => by omega⟩
                                · refine s_aload_n C dX10_conditionFault_195 rfl ?_
                                  refine s_callVI (st := []) C (c_X10_isOpen l ad τ o hd ho (by omega)) cv_X10_269 y71 rfl rfl rfl ⟨by decide, by decide⟩ (Nat.le_of_ble_eq_true rfl) dX10_conditionFault_196 ?_
                                  intro r1783 τ1784 h1785
                                  obtain ⟨eh1785, h1785⟩ := h1785; replace eh1785 := eh1785.symm; subst eh1785
                                  have mh1785 := h1785.2
                                  refine s_if_eq (tgt := 228) C dX10_conditionFault_199 (by decide) (fun q1786 => ?_) (fun q1786 => ?_)
                                  · refine s_iload_n C dX10_conditionFault_228 rfl ?_
                                    exact s_iret C X dX10_conditionFault_229 ⟨(Fr.tr Fr.rf (Fr.mo kF (by decide) (by decide))), by omega, by omega, fun q => by omega⟩
                                  · refine s_aload_n C dX10_conditionFault_202 rfl ?_
                                    refine s_callVV (st := []) C (c_X10_testEnds l ad τ o hd ho (by omega)) cv_X10_266 y71 rfl rfl rfl ⟨by decide, by decide⟩ (Nat.le_of_ble_eq_true rfl) dX10_conditionFault_203 ?_
                                    intro τ1788 h1789
                                    have dτ1788 : Int32.toInt (τ1788.1 71 49) = (te o).length := h1789.2
                                    have pτ1788 : Op (τ1788.1 109) (te o) := by rw [h1789.1.a 109 (by decide) (by decide)]; exact Op_te o ho
                                    have qτ1788 := te_len o
                                    obtain ⟨r6, hr6⟩ := te_hd (mh1785.mp (by omega))
                                    have hl6 : 1 ≤ (te o).length := by rw [hr6]; simp
                                    refine s_aload_n C dX10_conditionFault_206 rfl ?_
                                    refine s_dup C dX10_conditionFault_207 rfl ?_
                                    refine s_get (k := 49) (x := (τ1788.1 71 49)) C y71 fw_X10_260 rfl rfl dX10_conditionFault_208 ?_
                                    refine s_iconst C dX10_conditionFault_211 (by decide) (fun z1790 tz1790 => ?_)
                                    refine s_isub C dX10_conditionFault_212 (by omega) (fun z1791 tz1791 => ?_)
                                    refine s_put (k := 49) C y71 fw_X10_260 fp_9_49 rfl dX10_conditionFault_213 ?_
                                    refine s_aload_n C dX10_conditionFault_216 rfl ?_
                                    refine s_callVV (st := []) C (c_X10_testEnds l ad (sV τ1788 71 49 z1791) (te o).tail (by show Int32.toInt z1791 = _; rw [List.length_tail]; omega) (Op_tail _ pτ1788) (by rw [List.length_tail]; omega)) cv_X10_266 y71 rfl rfl rfl ⟨by decide, by decide⟩ (Nat.le_of_ble_eq_true rfl) dX10_conditionFault_217 ?_
                                    intro τ1793 h1794
                                    have dτ1793 : Int32.toInt (τ1793.1 71 49) = (te (te o).tail).length := h1794.2
                                    have pτ1793 : Op (τ1793.1 109) (te (te o).tail) := by rw [h1794.1.a 109 (by decide) (by decide)]; exact Op_te _ (Op_tail _ pτ1788)
                                    have qτ1793 := te_len (te o).tail
                                    have qqτ1793 : (te o).tail.length = (te o).length - 1 := List.length_tail
                                    skip
                                    refine s_iconst C dX10_conditionFault_220 (by decide) (fun z1795 tz1795 => ?_)
                                    refine s_istore_n C dX10_conditionFault_221 (by decide) (Nat.le_of_ble_eq_true rfl) rfl ?_
                                    show WP E ad 222 [some (.ref (ad 71)), some (.int z1795), some (.int z), some (.int (τ.1 86 z.toNatClampNeg))] [] τ1793
                                    refine s_iinc C dX10_conditionFault_222 rfl (by decide) rfl (by decide) (by omega) (fun z1796 tz1796 => ?_)
                                    show WP E ad 225 [some (.ref (ad 71)), some (.int z1795), some (.int z1796), some (.int (τ.1 86 z.toNatClampNeg))] [] τ1793
                                    refine s_goto (tgt := 230) C dX10_conditionFault_225 (by decide) ?_
                                    refine s_iload_n C dX10_conditionFault_230 rfl ?_
                                    refine s_if_ge (tgt := 238) C dX10_conditionFault_231 (by decide) (fun q1797 => ?_) (fun q1797 => ?_)
                                    · refine s_goto (tgt := 9) C dX10_conditionFault_238 (by decide) ?_
                                      refine wp_le (lv' := [some (.ref (ad 71)), some (.int z1795), some (.int z1796), none]) ⟨rfl, ⟨rfl, ⟨rfl, trivial⟩⟩⟩ ?_
                                      have ek1 : z1796.toInt.toNat = z.toInt.toNat + 1 := by omega
                                      exact ih τ1793 (te (te o).tail) z1795 z1796 (Fr.tr (Fr.sV (Fr.tr (Fr.tr Fr.rf (Fr.mo kF (by decide) (by decide))) (Fr.mo h1789.1 (by decide) (by decide))) (Or.inr (by decide))) (Fr.mo h1794.1 (by decide) (by decide))) dτ1793 pτ1793 (by omega) (by omega) (by omega) (fun ⟨f, hf⟩ => hac ⟨f + 1, Or.inr ⟨by omega, Or.inr (Or.inr (Or.inr (Or.inr (Or.inr ⟨by omega, by omega, mh1785.mp (by omega), (by rw [ek1, show z1795.toInt.toNat = 3 by omega] at hf; exact hf)⟩))))⟩⟩) (by omega)
                                    · refine s_iconst C dX10_conditionFault_234 (by decide) (fun z1798 tz1798 => ?_)
                                      refine s_iload_n C dX10_conditionFault_235 rfl ?_
                                      refine s_isub C dX10_conditionFault_236 (by omega) (fun z1799 tz1799 => ?_)
                                      exact s_iret C X dX10_conditionFault_237 ⟨(Fr.tr (Fr.sV (Fr.tr (Fr.tr Fr.rf (Fr.mo kF (by decide) (by decide))) (Fr.mo h1789.1 (by decide) (by decide))) (Or.inr (by decide))) (Fr.mo h1794.1 (by decide) (by decide))), by omega, by omega, fun q => by omega⟩
                            · refine s_aload_n C dX10_conditionFault_172 rfl ?_
                              refine s_callVV (st := []) C (c_X10_testEnds l ad τ o hd ho (by omega)) cv_X10_266 y71 rfl rfl rfl ⟨by decide, by decide⟩ (Nat.le_of_ble_eq_true rfl) dX10_conditionFault_173 ?_
                              intro τ1801 h1802
                              have dτ1801 : Int32.toInt (τ1801.1 71 49) = (te o).length := h1802.2
                              have pτ1801 : Op (τ1801.1 109) (te o) := by rw [h1802.1.a 109 (by decide) (by decide)]; exact Op_te o ho
                              have qτ1801 := te_len o
                              skip
                              refine s_iconst C dX10_conditionFault_176 (by decide) (fun z1803 tz1803 => ?_)
                              refine s_istore_n C dX10_conditionFault_177 (by decide) (Nat.le_of_ble_eq_true rfl) rfl ?_
                              show WP E ad 178 [some (.ref (ad 71)), some (.int z1803), some (.int z), some (.int (τ.1 86 z.toNatClampNeg))] [] τ1801
                              refine s_iinc C dX10_conditionFault_178 rfl (by decide) rfl (by decide) (by omega) (fun z1804 tz1804 => ?_)
                              show WP E ad 181 [some (.ref (ad 71)), some (.int z1803), some (.int z1804), some (.int (τ.1 86 z.toNatClampNeg))] [] τ1801
                              refine s_goto (tgt := 230) C dX10_conditionFault_181 (by decide) ?_
                              refine s_iload_n C dX10_conditionFault_230 rfl ?_
                              refine s_if_ge (tgt := 238) C dX10_conditionFault_231 (by decide) (fun q1805 => ?_) (fun q1805 => ?_)
                              · refine s_goto (tgt := 9) C dX10_conditionFault_238 (by decide) ?_
                                refine wp_le (lv' := [some (.ref (ad 71)), some (.int z1803), some (.int z1804), none]) ⟨rfl, ⟨rfl, ⟨rfl, trivial⟩⟩⟩ ?_
                                have ek1 : z1804.toInt.toNat = z.toInt.toNat + 1 := by omega
                                exact ih τ1801 (te o) z1803 z1804 (Fr.tr (Fr.tr Fr.rf (Fr.mo kF (by decide) (by decide))) (Fr.mo h1802.1 (by decide) (by decide))) dτ1801 pτ1801 (by omega) (by omega) (by omega) (fun ⟨f, hf⟩ => hac ⟨f + 1, Or.inr ⟨by omega, Or.inr (Or.inr (Or.inr (Or.inr (Or.inl ⟨by omega, by omega, (by rw [ek1, show z1803.toInt.toNat = 0 by omega] at hf; exact hf)⟩))))⟩⟩) (by omega)
                              · refine s_iconst C dX10_conditionFault_234 (by decide) (fun z1806 tz1806 => ?_)
                                refine s_iload_n C dX10_conditionFault_235 rfl ?_
                                refine s_isub C dX10_conditionFault_236 (by omega) (fun z1807 tz1807 => ?_)
                                exact s_iret C X dX10_conditionFault_237 ⟨(Fr.tr (Fr.tr Fr.rf (Fr.mo kF (by decide) (by decide))) (Fr.mo h1802.1 (by decide) (by decide))), by omega, by omega, fun q => by omega⟩
                      · refine s_aload_n C dX10_conditionFault_142 rfl ?_
                        refine s_iload_n C dX10_conditionFault_143 rfl ?_
                        refine s_iconst C dX10_conditionFault_144 (by decide) (fun z1808 tz1808 => ?_)
                        refine s_iadd C dX10_conditionFault_145 (by omega) (fun z1809 tz1809 => ?_)
                        refine s_callVI (st := []) C (c_X10_behindUnit l ad τ z1809 (by omega) (by omega) (by omega)) cv_X10_263 y71 rfl rfl rfl ⟨by decide, by decide⟩ (Nat.le_of_ble_eq_true rfl) dX10_conditionFault_146 ?_
                        intro r1810 τ1811 h1812
                        obtain ⟨eh1812, h1812⟩ := h1812; replace eh1812 := eh1812.symm; subst eh1812
                        have uh1812 := h1812.2.2
                        rw [f0, f17, e86] at uh1812
                        have vh1812 : 0 ≤ Int32.toInt r1810 → Int32.toInt r1810 ≤ Int32.toInt (σ.1 71 17) := fun q => by have := un_le (uh1812 q).2; omega
                        skip
                        refine s_istore_n C dX10_conditionFault_149 (by decide) (Nat.le_of_ble_eq_true rfl) rfl ?_
                        show WP E ad 150 [some (.ref (ad 71)), some (.int y), some (.int r1810), some (.int (τ.1 86 z.toNatClampNeg))] [] τ
                        refine s_iconst C dX10_conditionFault_150 (by decide) (fun z1813 tz1813 => ?_)
                        refine s_istore_n C dX10_conditionFault_151 (by decide) (Nat.le_of_ble_eq_true rfl) rfl ?_
                        show WP E ad 152 [some (.ref (ad 71)), some (.int z1813), some (.int r1810), some (.int (τ.1 86 z.toNatClampNeg))] [] τ
                        refine s_goto (tgt := 230) C dX10_conditionFault_152 (by decide) ?_
                        refine s_iload_n C dX10_conditionFault_230 rfl ?_
                        refine s_if_ge (tgt := 238) C dX10_conditionFault_231 (by decide) (fun q1814 => ?_) (fun q1814 => ?_)
                        · refine s_goto (tgt := 9) C dX10_conditionFault_238 (by decide) ?_
                          refine wp_le (lv' := [some (.ref (ad 71)), some (.int z1813), some (.int r1810), none]) ⟨rfl, ⟨rfl, ⟨rfl, trivial⟩⟩⟩ ?_
                          have ez1 : z1809.toInt.toNat = z.toInt.toNat + 1 := by omega
                          rw [ez1] at uh1812
                          exact ih τ o z1813 r1810 (Fr.tr Fr.rf (Fr.mo kF (by decide) (by decide))) hd ho (by omega) (by omega) (by omega) (fun ⟨f, hf⟩ => hac ⟨f + 1, Or.inr ⟨by omega, Or.inr (Or.inr (Or.inr (Or.inl ⟨by omega, by omega, _, (uh1812 (by omega)).2, (by rw [show z1813.toInt.toNat = 2 by omega] at hf; exact hf)⟩)))⟩⟩) (by omega)
                        · refine s_iconst C dX10_conditionFault_234 (by decide) (fun z1815 tz1815 => ?_)
                          refine s_iload_n C dX10_conditionFault_235 rfl ?_
                          refine s_isub C dX10_conditionFault_236 (by omega) (fun z1816 tz1816 => ?_)
                          exact s_iret C X dX10_conditionFault_237 ⟨(Fr.tr Fr.rf (Fr.mo kF (by decide) (by decide))), by omega, by omega, fun q => by omega⟩
                    · refine s_iload_n C dX10_conditionFault_131 rfl ?_
                      refine s_bipush C dX10_conditionFault_132 (by decide) (fun z1817 tz1817 => ?_)
                      refine s_icmp_ne (tgt := 155) C dX10_conditionFault_134 (by decide) (fun q1818 => ?_) (fun q1818 => ?_)
                      · refine s_iload_n C dX10_conditionFault_155 rfl ?_
                        refine s_bipush C dX10_conditionFault_156 (by decide) (fun z1819 tz1819 => ?_)
                        refine s_icmp_eq (tgt := 167) C dX10_conditionFault_158 (by decide) (fun q1820 => ?_) (fun q1820 => ?_)
                        · refine s_iload_n C dX10_conditionFault_167 rfl ?_
                          refine s_iconst C dX10_conditionFault_168 (by decide) (fun z1821 tz1821 => ?_)
                          refine s_icmp_le (tgt := 184) C dX10_conditionFault_169 (by decide) (fun q1822 => ?_) (fun q1822 => ?_)
                          · refine s_iload_n C dX10_conditionFault_184 rfl ?_
                            refine s_bipush C dX10_conditionFault_185 (by decide) (fun z1823 tz1823 => ?_)
                            refine s_icmp_ne (tgt := 228) C dX10_conditionFault_187 (by decide) (fun q1824 => ?_) (fun q1824 => ?_)
                            · refine s_iload_n C dX10_conditionFault_228 rfl ?_
                              exact s_iret C X dX10_conditionFault_229 ⟨(Fr.tr Fr.rf (Fr.mo kF (by decide) (by decide))), by omega, by omega, fun q => by omega⟩
                            · refine s_iload_n C dX10_conditionFault_190 rfl ?_
                              refine s_iconst C dX10_conditionFault_191 (by decide) (fun z1825 tz1825 => ?_)
                              refine s_icmp_le (tgt := 228) C dX10_conditionFault_192 (by decide) (fun q1826 => ?_) (fun q1826 => ?_)
                              · refine s_iload_n C dX10_conditionFault_228 rfl ?_
                                exact s_iret C X dX10_conditionFault_229 ⟨(Fr.tr Fr.rf (Fr.mo kF (by decide) (by decide))), by omega, by omega, fun q => by omega⟩
                              · refine s_aload_n C dX10_conditionFault_195 rfl ?_
                                refine s_callVI (st := []) C (c_X10_isOpen l ad τ o hd ho (by omega)) cv_X10_269 y71 rfl rfl rfl ⟨by decide, by decide⟩ (Nat.le_of_ble_eq_true rfl) dX10_conditionFault_196 ?_
                                intro r1827 τ1828 h1829
                                obtain ⟨eh1829, h1829⟩ := h1829; replace eh1829 := eh1829.symm; subst eh1829
                                have mh1829 := h1829.2
                                refine s_if_eq (tgt := 228) C dX10_conditionFault_199 (by decide) (fun q1830 => ?_) (fun q1830 => ?_)
                                · refine s_iload_n C dX10_conditionFault_228 rfl ?_
                                  exact s_iret C X dX10_conditionFault_229 ⟨(Fr.tr Fr.rf (Fr.mo kF (by decide) (by decide))), by omega, by omega, fun q => by omega⟩
                                · refine s_aload_n C dX10_conditionFault_202 rfl ?_
                                  refine s_callVV (st := []) C (c_X10_testEnds l ad τ o hd ho (by omega)) cv_X10_266 y71 rfl rfl rfl ⟨by decide, by decide⟩ (Nat.le_of_ble_eq_true rfl) dX10_conditionFault_203 ?_
                                  intro τ1832 h1833
                                  have dτ1832 : Int32.toInt (τ1832.1 71 49) = (te o).length := h1833.2
                                  have pτ1832 : Op (τ1832.1 109) (te o) := by rw [h1833.1.a 109 (by decide) (by decide)]; exact Op_te o ho
                                  have qτ1832 := te_len o
                                  obtain ⟨r6, hr6⟩ := te_hd (mh1829.mp (by omega))
                                  have hl6 : 1 ≤ (te o).length := by rw [hr6]; simp
                                  refine s_aload_n C dX10_conditionFault_206 rfl ?_
                                  refine s_dup C dX10_conditionFault_207 rfl ?_
                                  refine s_get (k := 49) (x := (τ1832.1 71 49)) C y71 fw_X10_260 rfl rfl dX10_conditionFault_208 ?_
                                  refine s_iconst C dX10_conditionFault_211 (by decide) (fun z1834 tz1834 => ?_)
                                  refine s_isub C dX10_conditionFault_212 (by omega) (fun z1835 tz1835 => ?_)
                                  refine s_put (k := 49) C y71 fw_X10_260 fp_9_49 rfl dX10_conditionFault_213 ?_
                                  refine s_aload_n C dX10_conditionFault_216 rfl ?_
                                  refine s_callVV (st := []) C (c_X10_testEnds l ad (sV τ1832 71 49 z1835) (te o).tail (by show Int32.toInt z1835 = _; rw [List.length_tail]; omega) (Op_tail _ pτ1832) (by rw [List.length_tail]; omega)) cv_X10_266 y71 rfl rfl rfl ⟨by decide, by decide⟩ (Nat.le_of_ble_eq_true rfl) dX10_conditionFault_217 ?_
                                  intro τ1837 h1838
                                  have dτ1837 : Int32.toInt (τ1837.1 71 49) = (te (te o).tail).length := h1838.2
                                  have pτ1837 : Op (τ1837.1 109) (te (te o).tail) := by rw [h1838.1.a 109 (by decide) (by decide)]; exact Op_te _ (Op_tail _ pτ1832)
                                  have qτ1837 := te_len (te o).tail
                                  have qqτ1837 : (te o).tail.length = (te o).length - 1 := List.length_tail
                                  skip
                                  refine s_iconst C dX10_conditionFault_220 (by decide) (fun z1839 tz1839 => ?_)
                                  refine s_istore_n C dX10_conditionFault_221 (by decide) (Nat.le_of_ble_eq_true rfl) rfl ?_
                                  show WP E ad 222 [some (.ref (ad 71)), some (.int z1839), some (.int z), some (.int (τ.1 86 z.toNatClampNeg))] [] τ1837
                                  refine s_iinc C dX10_conditionFault_222 rfl (by decide) rfl (by decide) (by omega) (fun z1840 tz1840 => ?_)
                                  show WP E ad 225 [some (.ref (ad 71)), some (.int z1839), some (.int z1840), some (.int (τ.1 86 z.toNatClampNeg))] [] τ1837
                                  refine s_goto (tgt := 230) C dX10_conditionFault_225 (by decide) ?_
                                  refine s_iload_n C dX10_conditionFault_230 rfl ?_
                                  refine s_if_ge (tgt := 238) C dX10_conditionFault_231 (by decide) (fun q1841 => ?_) (fun q1841 => ?_)
                                  · refine s_goto (tgt := 9) C dX10_conditionFault_238 (by decide) ?_
                                    refine wp_le (lv' := [some (.ref (ad 71)), some (.int z1839), some (.int z1840), none]) ⟨rfl, ⟨rfl, ⟨rfl, trivial⟩⟩⟩ ?_
                                    have ek1 : z1840.toInt.toNat = z.toInt.toNat + 1 := by omega
                                    exact ih τ1837 (te (te o).tail) z1839 z1840 (Fr.tr (Fr.sV (Fr.tr (Fr.tr Fr.rf (Fr.mo kF (by decide) (by decide))) (Fr.mo h1833.1 (by decide) (by decide))) (Or.inr (by decide))) (Fr.mo h1838.1 (by decide) (by decide))) dτ1837 pτ1837 (by omega) (by omega) (by omega) (fun ⟨f, hf⟩ => hac ⟨f + 1, Or.inr ⟨by omega, Or.inr (Or.inr (Or.inr (Or.inr (Or.inr ⟨by omega, by omega, mh1829.mp (by omega), (by rw [ek1, show z1839.toInt.toNat = 3 by omega] at hf; exact hf)⟩))))⟩⟩) (by omega)
                                  · refine s_iconst C dX10_conditionFault_234 (by decide) (fun z1842 tz1842 => ?_)
                                    refine s_iload_n C dX10_conditionFault_235 rfl ?_
                                    refine s_isub C dX10_conditionFault_236 (by omega) (fun z1843 tz1843 => ?_)
                                    exact s_iret C X dX10_conditionFault_237 ⟨(Fr.tr (Fr.sV (Fr.tr (Fr.tr Fr.rf (Fr.mo kF (by decide) (by decide))) (Fr.mo h1833.1 (by decide) (by decide))) (Or.inr (by decide))) (Fr.mo h1838.1 (by decide) (by decide))), by omega, by omega, fun q => by omega⟩
                          · refine s_aload_n C dX10_conditionFault_172 rfl ?_
                            refine s_callVV (st := []) C (c_X10_testEnds l ad τ o hd ho (by omega)) cv_X10_266 y71 rfl rfl rfl ⟨by decide, by decide⟩ (Nat.le_of_ble_eq_true rfl) dX10_conditionFault_173 ?_
                            intro τ1845 h1846
                            have dτ1845 : Int32.toInt (τ1845.1 71 49) = (te o).length := h1846.2
                            have pτ1845 : Op (τ1845.1 109) (te o) := by rw [h1846.1.a 109 (by decide) (by decide)]; exact Op_te o ho
                            have qτ1845 := te_len o
                            skip
                            refine s_iconst C dX10_conditionFault_176 (by decide) (fun z1847 tz1847 => ?_)
                            refine s_istore_n C dX10_conditionFault_177 (by decide) (Nat.le_of_ble_eq_true rfl) rfl ?_
                            show WP E ad 178 [some (.ref (ad 71)), some (.int z1847), some (.int z), some (.int (τ.1 86 z.toNatClampNeg))] [] τ1845
                            refine s_iinc C dX10_conditionFault_178 rfl (by decide) rfl (by decide) (by omega) (fun z1848 tz1848 => ?_)
                            show WP E ad 181 [some (.ref (ad 71)), some (.int z1847), some (.int z1848), some (.int (τ.1 86 z.toNatClampNeg))] [] τ1845
                            refine s_goto (tgt := 230) C dX10_conditionFault_181 (by decide) ?_
                            refine s_iload_n C dX10_conditionFault_230 rfl ?_
                            refine s_if_ge (tgt := 238) C dX10_conditionFault_231 (by decide) (fun q1849 => ?_) (fun q1849 => ?_)
                            · refine s_goto (tgt := 9) C dX10_conditionFault_238 (by decide) ?_
                              refine wp_le (lv' := [some (.ref (ad 71)), some (.int z1847), some (.int z1848), none]) ⟨rfl, ⟨rfl, ⟨rfl, trivial⟩⟩⟩ ?_
                              have ek1 : z1848.toInt.toNat = z.toInt.toNat + 1 := by omega
                              exact ih τ1845 (te o) z1847 z1848 (Fr.tr (Fr.tr Fr.rf (Fr.mo kF (by decide) (by decide))) (Fr.mo h1846.1 (by decide) (by decide))) dτ1845 pτ1845 (by omega) (by omega) (by omega) (fun ⟨f, hf⟩ => hac ⟨f + 1, Or.inr ⟨by omega, Or.inr (Or.inr (Or.inr (Or.inr (Or.inl ⟨by omega, by omega, (by rw [ek1, show z1847.toInt.toNat = 0 by omega] at hf; exact hf)⟩))))⟩⟩) (by omega)
                            · refine s_iconst C dX10_conditionFault_234 (by decide) (fun z1850 tz1850 => ?_)
                              refine s_iload_n C dX10_conditionFault_235 rfl ?_
                              refine s_isub C dX10_conditionFault_236 (by omega) (fun z1851 tz1851 => ?_)
                              exact s_iret C X dX10_conditionFault_237 ⟨(Fr.tr (Fr.tr Fr.rf (Fr.mo kF (by decide) (by decide))) (Fr.mo h1846.1 (by decide) (by decide))), by omega, by omega, fun q => by omega⟩
                        · refine s_iload_n C dX10_conditionFault_161 rfl ?_
                          refine s_bipush C dX10_conditionFault_162 (by decide) (fun z1852 tz1852 => ?_)
                          refine s_icmp_ne (tgt := 184) C dX10_conditionFault_164 (by decide) (fun q1853 => ?_) (fun q1853 => ?_)
                          · refine s_iload_n C dX10_conditionFault_184 rfl ?_
                            refine s_bipush C dX10_conditionFault_185 (by decide) (fun z1854 tz1854 => ?_)
                            refine s_icmp_ne (tgt := 228) C dX10_conditionFault_187 (by decide) (fun q1855 => ?_) (fun q1855 => ?_)
                            · refine s_iload_n C dX10_conditionFault_228 rfl ?_
                              exact s_iret C X dX10_conditionFault_229 ⟨(Fr.tr Fr.rf (Fr.mo kF (by decide) (by decide))), by omega, by omega, fun q => by omega⟩
                            · refine s_iload_n C dX10_conditionFault_190 rfl ?_
                              refine s_iconst C dX10_conditionFault_191 (by decide) (fun z1856 tz1856 => ?_)
                              refine s_icmp_le (tgt := 228) C dX10_conditionFault_192 (by decide) (fun q1857 => ?_) (fun q1857 => ?_)
                              · refine s_iload_n C dX10_conditionFault_228 rfl ?_
                                exact s_iret C X dX10_conditionFault_229 ⟨(Fr.tr Fr.rf (Fr.mo kF (by decide) (by decide))), by omega, by omega, fun q => by omega⟩
                              · refine s_aload_n C dX10_conditionFault_195 rfl ?_
                                refine s_callVI (st := []) C (c_X10_isOpen l ad τ o hd ho (by omega)) cv_X10_269 y71 rfl rfl rfl ⟨by decide, by decide⟩ (Nat.le_of_ble_eq_true rfl) dX10_conditionFault_196 ?_
                                intro r1858 τ1859 h1860
                                obtain ⟨eh1860, h1860⟩ := h1860; replace eh1860 := eh1860.symm; subst eh1860
                                have mh1860 := h1860.2
                                refine s_if_eq (tgt := 228) C dX10_conditionFault_199 (by decide) (fun q1861 => ?_) (fun q1861 => ?_)
                                · refine s_iload_n C dX10_conditionFault_228 rfl ?_
                                  exact s_iret C X dX10_conditionFault_229 ⟨(Fr.tr Fr.rf (Fr.mo kF (by decide) (by decide))), by omega, by omega, fun q => by omega⟩
                                · refine s_aload_n C dX10_conditionFault_202 rfl ?_
                                  refine s_callVV (st := []) C (c_X10_testEnds l ad τ o hd ho (by omega)) cv_X10_266 y71 rfl rfl rfl ⟨by decide, by decide⟩ (Nat.le_of_ble_eq_true rfl) dX10_conditionFault_203 ?_
                                  intro τ1863 h1864
                                  have dτ1863 : Int32.toInt (τ1863.1 71 49) = (te o).length := h1864.2
                                  have pτ1863 : Op (τ1863.1 109) (te o) := by rw [h1864.1.a 109 (by decide) (by decide)]; exact Op_te o ho
                                  have qτ1863 := te_len o
                                  obtain ⟨r6, hr6⟩ := te_hd (mh1860.mp (by omega))
                                  have hl6 : 1 ≤ (te o).length := by rw [hr6]; simp
                                  refine s_aload_n C dX10_conditionFault_206 rfl ?_
                                  refine s_dup C dX10_conditionFault_207 rfl ?_
                                  refine s_get (k := 49) (x := (τ1863.1 71 49)) C y71 fw_X10_260 rfl rfl dX10_conditionFault_208 ?_
                                  refine s_iconst C dX10_conditionFault_211 (by decide) (fun z1865 tz1865 => ?_)
                                  refine s_isub C dX10_conditionFault_212 (by omega) (fun z1866 tz1866 => ?_)
                                  refine s_put (k := 49) C y71 fw_X10_260 fp_9_49 rfl dX10_conditionFault_213 ?_
                                  refine s_aload_n C dX10_conditionFault_216 rfl ?_
                                  refine s_callVV (st := []) C (c_X10_testEnds l ad (sV τ1863 71 49 z1866) (te o).tail (by show Int32.toInt z1866 = _; rw [List.length_tail]; omega) (Op_tail _ pτ1863) (by rw [List.length_tail]; omega)) cv_X10_266 y71 rfl rfl rfl ⟨by decide, by decide⟩ (Nat.le_of_ble_eq_true rfl) dX10_conditionFault_217 ?_
                                  intro τ1868 h1869
                                  have dτ1868 : Int32.toInt (τ1868.1 71 49) = (te (te o).tail).length := h1869.2
                                  have pτ1868 : Op (τ1868.1 109) (te (te o).tail) := by rw [h1869.1.a 109 (by decide) (by decide)]; exact Op_te _ (Op_tail _ pτ1863)
                                  have qτ1868 := te_len (te o).tail
                                  have qqτ1868 : (te o).tail.length = (te o).length - 1 := List.length_tail
                                  skip
                                  refine s_iconst C dX10_conditionFault_220 (by decide) (fun z1870 tz1870 => ?_)
                                  refine s_istore_n C dX10_conditionFault_221 (by decide) (Nat.le_of_ble_eq_true rfl) rfl ?_
                                  show WP E ad 222 [some (.ref (ad 71)), some (.int z1870), some (.int z), some (.int (τ.1 86 z.toNatClampNeg))] [] τ1868
                                  refine s_iinc C dX10_conditionFault_222 rfl (by decide) rfl (by decide) (by omega) (fun z1871 tz1871 => ?_)
                                  show WP E ad 225 [some (.ref (ad 71)), some (.int z1870), some (.int z1871), some (.int (τ.1 86 z.toNatClampNeg))] [] τ1868
                                  refine s_goto (tgt := 230) C dX10_conditionFault_225 (by decide) ?_
                                  refine s_iload_n C dX10_conditionFault_230 rfl ?_
                                  refine s_if_ge (tgt := 238) C dX10_conditionFault_231 (by decide) (fun q1872 => ?_) (fun q1872 => ?_)
                                  · refine s_goto (tgt := 9) C dX10_conditionFault_238 (by decide) ?_
                                    refine wp_le (lv' := [some (.ref (ad 71)), some (.int z1870), some (.int z1871), none]) ⟨rfl, ⟨rfl, ⟨rfl, trivial⟩⟩⟩ ?_
                                    have ek1 : z1871.toInt.toNat = z.toInt.toNat + 1 := by omega
                                    exact ih τ1868 (te (te o).tail) z1870 z1871 (Fr.tr (Fr.sV (Fr.tr (Fr.tr Fr.rf (Fr.mo kF (by decide) (by decide))) (Fr.mo h1864.1 (by decide) (by decide))) (Or.inr (by decide))) (Fr.mo h1869.1 (by decide) (by decide))) dτ1868 pτ1868 (by omega) (by omega) (by omega) (fun ⟨f, hf⟩ => hac ⟨f + 1, Or.inr ⟨by omega, Or.inr (Or.inr (Or.inr (Or.inr (Or.inr ⟨by omega, by omega, mh1860.mp (by omega), (by rw [ek1, show z1870.toInt.toNat = 3 by omega] at hf; exact hf)⟩))))⟩⟩) (by omega)
                                  · refine s_iconst C dX10_conditionFault_234 (by decide) (fun z1873 tz1873 => ?_)
                                    refine s_iload_n C dX10_conditionFault_235 rfl ?_
                                    refine s_isub C dX10_conditionFault_236 (by omega) (fun z1874 tz1874 => ?_)
                                    exact s_iret C X dX10_conditionFault_237 ⟨(Fr.tr (Fr.sV (Fr.tr (Fr.tr Fr.rf (Fr.mo kF (by decide) (by decide))) (Fr.mo h1864.1 (by decide) (by decide))) (Or.inr (by decide))) (Fr.mo h1869.1 (by decide) (by decide))), by omega, by omega, fun q => by omega⟩
                          · refine s_iload_n C dX10_conditionFault_167 rfl ?_
                            refine s_iconst C dX10_conditionFault_168 (by decide) (fun z1875 tz1875 => ?_)
                            refine s_icmp_le (tgt := 184) C dX10_conditionFault_169 (by decide) (fun q1876 => ?_) (fun q1876 => ?_)
                            · refine s_iload_n C dX10_conditionFault_184 rfl ?_
                              refine s_bipush C dX10_conditionFault_185 (by decide) (fun z1877 tz1877 => ?_)
                              refine s_icmp_ne (tgt := 228) C dX10_conditionFault_187 (by decide) (fun q1878 => ?_) (fun q1878 => ?_)
                              · refine s_iload_n C dX10_conditionFault_228 rfl ?_
                                exact s_iret C X dX10_conditionFault_229 ⟨(Fr.tr Fr.rf (Fr.mo kF (by decide) (by decide))), by omega, by omega, fun q => by omega⟩
                              · refine s_iload_n C dX10_conditionFault_190 rfl ?_
                                refine s_iconst C dX10_conditionFault_191 (by decide) (fun z1879 tz1879 => ?_)
                                refine s_icmp_le (tgt := 228) C dX10_conditionFault_192 (by decide) (fun q1880 => ?_) (fun q1880 => ?_)
                                · refine s_iload_n C dX10_conditionFault_228 rfl ?_
                                  exact s_iret C X dX10_conditionFault_229 ⟨(Fr.tr Fr.rf (Fr.mo kF (by decide) (by decide))), by omega, by omega, fun q => by omega⟩
                                · refine s_aload_n C dX10_conditionFault_195 rfl ?_
                                  refine s_callVI (st := []) C (c_X10_isOpen l ad τ o hd ho (by omega)) cv_X10_269 y71 rfl rfl rfl ⟨by decide, by decide⟩ (Nat.le_of_ble_eq_true rfl) dX10_conditionFault_196 ?_
                                  intro r1881 τ1882 h1883
                                  obtain ⟨eh1883, h1883⟩ := h1883; replace eh1883 := eh1883.symm; subst eh1883
                                  have mh1883 := h1883.2
                                  refine s_if_eq (tgt := 228) C dX10_conditionFault_199 (by decide) (fun q1884 => ?_) (fun q1884 => ?_)
                                  · refine s_iload_n C dX10_conditionFault_228 rfl ?_
                                    exact s_iret C X dX10_conditionFault_229 ⟨(Fr.tr Fr.rf (Fr.mo kF (by decide) (by decide))), by omega, by omega, fun q => by omega⟩
                                  · refine s_aload_n C dX10_conditionFault_202 rfl ?_
                                    refine s_callVV (st := []) C (c_X10_testEnds l ad τ o hd ho (by omega)) cv_X10_266 y71 rfl rfl rfl ⟨by decide, by decide⟩ (Nat.le_of_ble_eq_true rfl) dX10_conditionFault_203 ?_
                                    intro τ1886 h1887
                                    have dτ1886 : Int32.toInt (τ1886.1 71 49) = (te o).length := h1887.2
                                    have pτ1886 : Op (τ1886.1 109) (te o) := by rw [h1887.1.a 109 (by decide) (by decide)]; exact Op_te o ho
                                    have qτ1886 := te_len o
                                    obtain ⟨r6, hr6⟩ := te_hd (mh1883.mp (by omega))
                                    have hl6 : 1 ≤ (te o).length := by rw [hr6]; simp
                                    refine s_aload_n C dX10_conditionFault_206 rfl ?_
                                    refine s_dup C dX10_conditionFault_207 rfl ?_
                                    refine s_get (k := 49) (x := (τ1886.1 71 49)) C y71 fw_X10_260 rfl rfl dX10_conditionFault_208 ?_
                                    refine s_iconst C dX10_conditionFault_211 (by decide) (fun z1888 tz1888 => ?_)
                                    refine s_isub C dX10_conditionFault_212 (by omega) (fun z1889 tz1889 => ?_)
                                    refine s_put (k := 49) C y71 fw_X10_260 fp_9_49 rfl dX10_conditionFault_213 ?_
                                    refine s_aload_n C dX10_conditionFault_216 rfl ?_
                                    refine s_callVV (st := []) C (c_X10_testEnds l ad (sV τ1886 71 49 z1889) (te o).tail (by show Int32.toInt z1889 = _; rw [List.length_tail]; omega) (Op_tail _ pτ1886) (by rw [List.length_tail]; omega)) cv_X10_266 y71 rfl rfl rfl ⟨by decide, by decide⟩ (Nat.le_of_ble_eq_true rfl) dX10_conditionFault_217 ?_
                                    intro τ1891 h1892
                                    have dτ1891 : Int32.toInt (τ1891.1 71 49) = (te (te o).tail).length := h1892.2
                                    have pτ1891 : Op (τ1891.1 109) (te (te o).tail) := by rw [h1892.1.a 109 (by decide) (by decide)]; exact Op_te _ (Op_tail _ pτ1886)
                                    have qτ1891 := te_len (te o).tail
                                    have qqτ1891 : (te o).tail.length = (te o).length - 1 := List.length_tail
                                    skip
                                    refine s_iconst C dX10_conditionFault_220 (by decide) (fun z1893 tz1893 => ?_)
                                    refine s_istore_n C dX10_conditionFault_221 (by decide) (Nat.le_of_ble_eq_true rfl) rfl ?_
                                    show WP E ad 222 [some (.ref (ad 71)), some (.int z1893), some (.int z), some (.int (τ.1 86 z.toNatClampNeg))] [] τ1891
                                    refine s_iinc C dX10_conditionFault_222 rfl (by decide) rfl (by decide) (by omega) (fun z1894 tz1894 => ?_)
                                    show WP E ad 225 [some (.ref (ad 71)), some (.int z1893), some (.int z1894), some (.int (τ.1 86 z.toNatClampNeg))] [] τ1891
                                    refine s_goto (tgt := 230) C dX10_conditionFault_225 (by decide) ?_
                                    refine s_iload_n C dX10_conditionFault_230 rfl ?_
                                    refine s_if_ge (tgt := 238) C dX10_conditionFault_231 (by decide) (fun q1895 => ?_) (fun q1895 => ?_)
                                    · refine s_goto (tgt := 9) C dX10_conditionFault_238 (by decide) ?_
                                      refine wp_le (lv' := [some (.ref (ad 71)), some (.int z1893), some (.int z1894), none]) ⟨rfl, ⟨rfl, ⟨rfl, trivial⟩⟩⟩ ?_
                                      have ek1 : z1894.toInt.toNat = z.toInt.toNat + 1 := by omega
                                      exact ih τ1891 (te (te o).tail) z1893 z1894 (Fr.tr (Fr.sV (Fr.tr (Fr.tr Fr.rf (Fr.mo kF (by decide) (by decide))) (Fr.mo h1887.1 (by decide) (by decide))) (Or.inr (by decide))) (Fr.mo h1892.1 (by decide) (by decide))) dτ1891 pτ1891 (by omega) (by omega) (by omega) (fun ⟨f, hf⟩ => hac ⟨f + 1, Or.inr ⟨by omega, Or.inr (Or.inr (Or.inr (Or.inr (Or.inr ⟨by omega, by omega, mh1883.mp (by omega), (by rw [ek1, show z1893.toInt.toNat = 3 by omega] at hf; exact hf)⟩))))⟩⟩) (by omega)
                                    · refine s_iconst C dX10_conditionFault_234 (by decide) (fun z1896 tz1896 => ?_)
                                      refine s_iload_n C dX10_conditionFault_235 rfl ?_
                                      refine s_isub C dX10_conditionFault_236 (by omega) (fun z1897 tz1897 => ?_)
                                      exact s_iret C X dX10_conditionFault_237 ⟨(Fr.tr (Fr.sV (Fr.tr (Fr.tr Fr.rf (Fr.mo kF (by decide) (by decide))) (Fr.mo h1887.1 (by decide) (by decide))) (Or.inr (by decide))) (Fr.mo h1892.1 (by decide) (by decide))), by omega, by omega, fun q => by omega⟩
                            · refine s_aload_n C dX10_conditionFault_172 rfl ?_
                              refine s_callVV (st := []) C (c_X10_testEnds l ad τ o hd ho (by omega)) cv_X10_266 y71 rfl rfl rfl ⟨by decide, by decide⟩ (Nat.le_of_ble_eq_true rfl) dX10_conditionFault_173 ?_
                              intro τ1899 h1900
                              have dτ1899 : Int32.toInt (τ1899.1 71 49) = (te o).length := h1900.2
                              have pτ1899 : Op (τ1899.1 109) (te o) := by rw [h1900.1.a 109 (by decide) (by decide)]; exact Op_te o ho
                              have qτ1899 := te_len o
                              skip
                              refine s_iconst C dX10_conditionFault_176 (by decide) (fun z1901 tz1901 => ?_)
                              refine s_istore_n C dX10_conditionFault_177 (by decide) (Nat.le_of_ble_eq_true rfl) rfl ?_
                              show WP E ad 178 [some (.ref (ad 71)), some (.int z1901), some (.int z), some (.int (τ.1 86 z.toNatClampNeg))] [] τ1899
                              refine s_iinc C dX10_conditionFault_178 rfl (by decide) rfl (by decide) (by omega) (fun z1902 tz1902 => ?_)
                              show WP E ad 181 [some (.ref (ad 71)), some (.int z1901), some (.int z1902), some (.int (τ.1 86 z.toNatClampNeg))] [] τ1899
                              refine s_goto (tgt := 230) C dX10_conditionFault_181 (by decide) ?_
                              refine s_iload_n C dX10_conditionFault_230 rfl ?_
                              refine s_if_ge (tgt := 238) C dX10_conditionFault_231 (by decide) (fun q1903 => ?_) (fun q1903 => ?_)
                              · refine s_goto (tgt := 9) C dX10_conditionFault_238 (by decide) ?_
                                refine wp_le (lv' := [some (.ref (ad 71)), some (.int z1901), some (.int z1902), none]) ⟨rfl, ⟨rfl, ⟨rfl, trivial⟩⟩⟩ ?_
                                have ek1 : z1902.toInt.toNat = z.toInt.toNat + 1 := by omega
                                exact ih τ1899 (te o) z1901 z1902 (Fr.tr (Fr.tr Fr.rf (Fr.mo kF (by decide) (by decide))) (Fr.mo h1900.1 (by decide) (by decide))) dτ1899 pτ1899 (by omega) (by omega) (by omega) (fun ⟨f, hf⟩ => hac ⟨f + 1, Or.inr ⟨by omega, Or.inr (Or.inr (Or.inr (Or.inr (Or.inl ⟨by omega, by omega, (by rw [ek1, show z1901.toInt.toNat = 0 by omega] at hf; exact hf)⟩))))⟩⟩) (by omega)
                              · refine s_iconst C dX10_conditionFault_234 (by decide) (fun z1904 tz1904 => ?_)
                                refine s_iload_n C dX10_conditionFault_235 rfl ?_
                                refine s_isub C dX10_conditionFault_236 (by omega) (fun z1905 tz1905 => ?_)
                                exact s_iret C X dX10_conditionFault_237 ⟨(Fr.tr (Fr.tr Fr.rf (Fr.mo kF (by decide) (by decide))) (Fr.mo h1900.1 (by decide) (by decide))), by omega, by omega, fun q => by omega⟩
                      · refine s_iload_n C dX10_conditionFault_137 rfl ?_
                        refine s_iconst C dX10_conditionFault_138 (by decide) (fun z1906 tz1906 => ?_)
                        refine s_icmp_ne (tgt := 155) C dX10_conditionFault_139 (by decide) (fun q1907 => ?_) (fun q1907 => ?_)
                        · refine s_iload_n C dX10_conditionFault_155 rfl ?_
                          refine s_bipush C dX10_conditionFault_156 (by decide) (fun z1908 tz1908 => ?_)
                          refine s_icmp_eq (tgt := 167) C dX10_conditionFault_158 (by decide) (fun q1909 => ?_) (fun q1909 => ?_)
                          · refine s_iload_n C dX10_conditionFault_167 rfl ?_
                            refine s_iconst C dX10_conditionFault_168 (by decide) (fun z1910 tz1910 => ?_)
                            refine s_icmp_le (tgt := 184) C dX10_conditionFault_169 (by decide) (fun q1911 => ?_) (fun q1911 => ?_)
                            · refine s_iload_n C dX10_conditionFault_184 rfl ?_
                              refine s_bipush C dX10_conditionFault_185 (by decide) (fun z1912 tz1912 => ?_)
                              refine s_icmp_ne (tgt := 228) C dX10_conditionFault_187 (by decide) (fun q1913 => ?_) (fun q1913 => ?_)
                              · refine s_iload_n C dX10_conditionFault_228 rfl ?_
                                exact s_iret C X dX10_conditionFault_229 ⟨(Fr.tr Fr.rf (Fr.mo kF (by decide) (by decide))), by omega, by omega, fun q => by omega⟩
                              · refine s_iload_n C dX10_conditionFault_190 rfl ?_
                                refine s_iconst C dX10_conditionFault_191 (by decide) (fun z1914 tz1914 => ?_)
                                refine s_icmp_le (tgt := 228) C dX10_conditionFault_192 (by decide) (fun q1915 => ?_) (fun q1915 => ?_)
                                · refine s_iload_n C dX10_conditionFault_228 rfl ?_
                                  exact s_iret C X dX10_conditionFault_229 ⟨(Fr.tr Fr.rf (Fr.mo kF (by decide) (by decide))), by omega, by omega, fun q => by omega⟩
                                · refine s_aload_n C dX10_conditionFault_195 rfl ?_
                                  refine s_callVI (st := []) C (c_X10_isOpen l ad τ o hd ho (by omega)) cv_X10_269 y71 rfl rfl rfl ⟨by decide, by decide⟩ (Nat.le_of_ble_eq_true rfl) dX10_conditionFault_196 ?_
                                  intro r1916 τ1917 h1918
                                  obtain ⟨eh1918, h1918⟩ := h1918; replace eh1918 := eh1918.symm; subst eh1918
                                  have mh1918 := h1918.2
                                  refine s_if_eq (tgt := 228) C dX10_conditionFault_199 (by decide) (fun q1919 => ?_) (fun q1919 => ?_)
                                  · refine s_iload_n C dX10_conditionFault_228 rfl ?_
                                    exact s_iret C X dX10_conditionFault_229 ⟨(Fr.tr Fr.rf (Fr.mo kF (by decide) (by decide))), by omega, by omega, fun q => by omega⟩
                                  · refine s_aload_n C dX10_conditionFault_202 rfl ?_
                                    refine s_callVV (st := []) C (c_X10_testEnds l ad τ o hd ho (by omega)) cv_X10_266 y71 rfl rfl rfl ⟨by decide, by decide⟩ (Nat.le_of_ble_eq_true rfl) dX10_conditionFault_203 ?_
                                    intro τ1921 h1922
                                    have dτ1921 : Int32.toInt (τ1921.1 71 49) = (te o).length := h1922.2
                                    have pτ1921 : Op (τ1921.1 109) (te o) := by rw [h1922.1.a 109 (by decide) (by decide)]; exact Op_te o ho
                                    have qτ1921 := te_len o
                                    obtain ⟨r6, hr6⟩ := te_hd (mh1918.mp (by omega))
                                    have hl6 : 1 ≤ (te o).length := by rw [hr6]; simp
                                    refine s_aload_n C dX10_conditionFault_206 rfl ?_
                                    refine s_dup C dX10_conditionFault_207 rfl ?_
                                    refine s_get (k := 49) (x := (τ1921.1 71 49)) C y71 fw_X10_260 rfl rfl dX10_conditionFault_208 ?_
                                    refine s_iconst C dX10_conditionFault_211 (by decide) (fun z1923 tz1923 => ?_)
                                    refine s_isub C dX10_conditionFault_212 (by omega) (fun z1924 tz1924 => ?_)
                                    refine s_put (k := 49) C y71 fw_X10_260 fp_9_49 rfl dX10_conditionFault_213 ?_
                                    refine s_aload_n C dX10_conditionFault_216 rfl ?_
                                    refine s_callVV (st := []) C (c_X10_testEnds l ad (sV τ1921 71 49 z1924) (te o).tail (by show Int32.toInt z1924 = _; rw [List.length_tail]; omega) (Op_tail _ pτ1921) (by rw [List.length_tail]; omega)) cv_X10_266 y71 rfl rfl rfl ⟨by decide, by decide⟩ (Nat.le_of_ble_eq_true rfl) dX10_conditionFault_217 ?_
                                    intro τ1926 h1927
                                    have dτ1926 : Int32.toInt (τ1926.1 71 49) = (te (te o).tail).length := h1927.2
                                    have pτ1926 : Op (τ1926.1 109) (te (te o).tail) := by rw [h1927.1.a 109 (by decide) (by decide)]; exact Op_te _ (Op_tail _ pτ1921)
                                    have qτ1926 := te_len (te o).tail
                                    have qqτ1926 : (te o).tail.length = (te o).length - 1 := List.length_tail
                                    skip
                                    refine s_iconst C dX10_conditionFault_220 (by decide) (fun z1928 tz1928 => ?_)
                                    refine s_istore_n C dX10_conditionFault_221 (by decide) (Nat.le_of_ble_eq_true rfl) rfl ?_
                                    show WP E ad 222 [some (.ref (ad 71)), some (.int z1928), some (.int z), some (.int (τ.1 86 z.toNatClampNeg))] [] τ1926
                                    refine s_iinc C dX10_conditionFault_222 rfl (by decide) rfl (by decide) (by omega) (fun z1929 tz1929 => ?_)
                                    show WP E ad 225 [some (.ref (ad 71)), some (.int z1928), some (.int z1929), some (.int (τ.1 86 z.toNatClampNeg))] [] τ1926
                                    refine s_goto (tgt := 230) C dX10_conditionFault_225 (by decide) ?_
                                    refine s_iload_n C dX10_conditionFault_230 rfl ?_
                                    refine s_if_ge (tgt := 238) C dX10_conditionFault_231 (by decide) (fun q1930 => ?_) (fun q1930 => ?_)
                                    · refine s_goto (tgt := 9) C dX10_conditionFault_238 (by decide) ?_
                                      refine wp_le (lv' := [some (.ref (ad 71)), some (.int z1928), some (.int z1929), none]) ⟨rfl, ⟨rfl, ⟨rfl, trivial⟩⟩⟩ ?_
                                      have ek1 : z1929.toInt.toNat = z.toInt.toNat + 1 := by omega
                                      exact ih τ1926 (te (te o).tail) z1928 z1929 (Fr.tr (Fr.sV (Fr.tr (Fr.tr Fr.rf (Fr.mo kF (by decide) (by decide))) (Fr.mo h1922.1 (by decide) (by decide))) (Or.inr (by decide))) (Fr.mo h1927.1 (by decide) (by decide))) dτ1926 pτ1926 (by omega) (by omega) (by omega) (fun ⟨f, hf⟩ => hac ⟨f + 1, Or.inr ⟨by omega, Or.inr (Or.inr (Or.inr (Or.inr (Or.inr ⟨by omega, by omega, mh1918.mp (by omega), (by rw [ek1, show z1928.toInt.toNat = 3 by omega] at hf; exact hf)⟩))))⟩⟩) (by omega)
                                    · refine s_iconst C dX10_conditionFault_234 (by decide) (fun z1931 tz1931 => ?_)
                                      refine s_iload_n C dX10_conditionFault_235 rfl ?_
                                      refine s_isub C dX10_conditionFault_236 (by omega) (fun z1932 tz1932 => ?_)
                                      exact s_iret C X dX10_conditionFault_237 ⟨(Fr.tr (Fr.sV (Fr.tr (Fr.tr Fr.rf (Fr.mo kF (by decide) (by decide))) (Fr.mo h1922.1 (by decide) (by decide))) (Or.inr (by decide))) (Fr.mo h1927.1 (by decide) (by decide))), by omega, by omega, fun q => by omega⟩
                            · refine s_aload_n C dX10_conditionFault_172 rfl ?_
                              refine s_callVV (st := []) C (c_X10_testEnds l ad τ o hd ho (by omega)) cv_X10_266 y71 rfl rfl rfl ⟨by decide, by decide⟩ (Nat.le_of_ble_eq_true rfl) dX10_conditionFault_173 ?_
                              intro τ1934 h1935
                              have dτ1934 : Int32.toInt (τ1934.1 71 49) = (te o).length := h1935.2
                              have pτ1934 : Op (τ1934.1 109) (te o) := by rw [h1935.1.a 109 (by decide) (by decide)]; exact Op_te o ho
                              have qτ1934 := te_len o
                              skip
                              refine s_iconst C dX10_conditionFault_176 (by decide) (fun z1936 tz1936 => ?_)
                              refine s_istore_n C dX10_conditionFault_177 (by decide) (Nat.le_of_ble_eq_true rfl) rfl ?_
                              show WP E ad 178 [some (.ref (ad 71)), some (.int z1936), some (.int z), some (.int (τ.1 86 z.toNatClampNeg))] [] τ1934
                              refine s_iinc C dX10_conditionFault_178 rfl (by decide) rfl (by decide) (by omega) (fun z1937 tz1937 => ?_)
                              show WP E ad 181 [some (.ref (ad 71)), some (.int z1936), some (.int z1937), some (.int (τ.1 86 z.toNatClampNeg))] [] τ1934
                              refine s_goto (tgt := 230) C dX10_conditionFault_181 (by decide) ?_
                              refine s_iload_n C dX10_conditionFault_230 rfl ?_
                              refine s_if_ge (tgt := 238) C dX10_conditionFault_231 (by decide) (fun q1938 => ?_) (fun q1938 => ?_)
                              · refine s_goto (tgt := 9) C dX10_conditionFault_238 (by decide) ?_
                                refine wp_le (lv' := [some (.ref (ad 71)), some (.int z1936), some (.int z1937), none]) ⟨rfl, ⟨rfl, ⟨rfl, trivial⟩⟩⟩ ?_
                                have ek1 : z1937.toInt.toNat = z.toInt.toNat + 1 := by omega
                                exact ih τ1934 (te o) z1936 z1937 (Fr.tr (Fr.tr Fr.rf (Fr.mo kF (by decide) (by decide))) (Fr.mo h1935.1 (by decide) (by decide))) dτ1934 pτ1934 (by omega) (by omega) (by omega) (fun ⟨f, hf⟩ => hac ⟨f + 1, Or.inr ⟨by omega, Or.inr (Or.inr (Or.inr (Or.inr (Or.inl ⟨by omega, by omega, (by rw [ek1, show z1936.toInt.toNat = 0 by omega] at hf; exact hf)⟩))))⟩⟩) (by omega)
                              · refine s_iconst C dX10_conditionFault_234 (by decide) (fun z1939 tz1939 => ?_)
                                refine s_iload_n C dX10_conditionFault_235 rfl ?_
                                refine s_isub C dX10_conditionFault_236 (by omega) (fun z1940 tz1940 => ?_)
                                exact s_iret C X dX10_conditionFault_237 ⟨(Fr.tr (Fr.tr Fr.rf (Fr.mo kF (by decide) (by decide))) (Fr.mo h1935.1 (by decide) (by decide))), by omega, by omega, fun q => by omega⟩
                          · refine s_iload_n C dX10_conditionFault_161 rfl ?_
                            refine s_bipush C dX10_conditionFault_162 (by decide) (fun z1941 tz1941 => ?_)
                            refine s_icmp_ne (tgt := 184) C dX10_conditionFault_164 (by decide) (fun q1942 => ?_) (fun q1942 => ?_)
                            · refine s_iload_n C dX10_conditionFault_184 rfl ?_
                              refine s_bipush C dX10_conditionFault_185 (by decide) (fun z1943 tz1943 => ?_)
                              refine s_icmp_ne (tgt := 228) C dX10_conditionFault_187 (by decide) (fun q1944 => ?_) (fun q1944 => ?_)
                              · refine s_iload_n C dX10_conditionFault_228 rfl ?_
                                exact s_iret C X dX10_conditionFault_229 ⟨(Fr.tr Fr.rf (Fr.mo kF (by decide) (by decide))), by omega, by omega, fun q => by omega⟩
                              · refine s_iload_n C dX10_conditionFault_190 rfl ?_
                                refine s_iconst C dX10_conditionFault_191 (by decide) (fun z1945 tz1945 => ?_)
                                refine s_icmp_le (tgt := 228) C dX10_conditionFault_192 (by decide) (fun q1946 => ?_) (fun q1946 => ?_)
                                · refine s_iload_n C dX10_conditionFault_228 rfl ?_
                                  exact s_iret C X dX10_conditionFault_229 ⟨(Fr.tr Fr.rf (Fr.mo kF (by decide) (by decide))), by omega, by omega, fun q => by omega⟩
                                · refine s_aload_n C dX10_conditionFault_195 rfl ?_
                                  refine s_callVI (st := []) C (c_X10_isOpen l ad τ o hd ho (by omega)) cv_X10_269 y71 rfl rfl rfl ⟨by decide, by decide⟩ (Nat.le_of_ble_eq_true rfl) dX10_conditionFault_196 ?_
                                  intro r1947 τ1948 h1949
                                  obtain ⟨eh1949, h1949⟩ := h1949; replace eh1949 := eh1949.symm; subst eh1949
                                  have mh1949 := h1949.2
                                  refine s_if_eq (tgt := 228) C dX10_conditionFault_199 (by decide) (fun q1950 => ?_) (fun q1950 => ?_)
                                  · refine s_iload_n C dX10_conditionFault_228 rfl ?_
                                    exact s_iret C X dX10_conditionFault_229 ⟨(Fr.tr Fr.rf (Fr.mo kF (by decide) (by decide))), by omega, by omega, fun q => by omega⟩
                                  · refine s_aload_n C dX10_conditionFault_202 rfl ?_
                                    refine s_callVV (st := []) C (c_X10_testEnds l ad τ o hd ho (by omega)) cv_X10_266 y71 rfl rfl rfl ⟨by decide, by decide⟩ (Nat.le_of_ble_eq_true rfl) dX10_conditionFault_203 ?_
                                    intro τ1952 h1953
                                    have dτ1952 : Int32.toInt (τ1952.1 71 49) = (te o).length := h1953.2
                                    have pτ1952 : Op (τ1952.1 109) (te o) := by rw [h1953.1.a 109 (by decide) (by decide)]; exact Op_te o ho
                                    have qτ1952 := te_len o
                                    obtain ⟨r6, hr6⟩ := te_hd (mh1949.mp (by omega))
                                    have hl6 : 1 ≤ (te o).length := by rw [hr6]; simp
                                    refine s_aload_n C dX10_conditionFault_206 rfl ?_
                                    refine s_dup C dX10_conditionFault_207 rfl ?_
                                    refine s_get (k := 49) (x := (τ1952.1 71 49)) C y71 fw_X10_260 rfl rfl dX10_conditionFault_208 ?_
                                    refine s_iconst C dX10_conditionFault_211 (by decide) (fun z1954 tz1954 => ?_)
                                    refine s_isub C dX10_conditionFault_212 (by omega) (fun z1955 tz1955 => ?_)
                                    refine s_put (k := 49) C y71 fw_X10_260 fp_9_49 rfl dX10_conditionFault_213 ?_
                                    refine s_aload_n C dX10_conditionFault_216 rfl ?_
                                    refine s_callVV (st := []) C (c_X10_testEnds l ad (sV τ1952 71 49 z1955) (te o).tail (by show Int32.toInt z1955 = _; rw [List.length_tail]; omega) (Op_tail _ pτ1952) (by rw [List.length_tail]; omega)) cv_X10_266 y71 rfl rfl rfl ⟨by decide, by decide⟩ (Nat.le_of_ble_eq_true rfl) dX10_conditionFault_217 ?_
                                    intro τ1957 h1958
                                    have dτ1957 : Int32.toInt (τ1957.1 71 49) = (te (te o).tail).length := h1958.2
                                    have pτ1957 : Op (τ1957.1 109) (te (te o).tail) := by rw [h1958.1.a 109 (by decide) (by decide)]; exact Op_te _ (Op_tail _ pτ1952)
                                    have qτ1957 := te_len (te o).tail
                                    have qqτ1957 : (te o).tail.length = (te o).length - 1 := List.length_tail
                                    skip
                                    refine s_iconst C dX10_conditionFault_220 (by decide) (fun z1959 tz1959 => ?_)
                                    refine s_istore_n C dX10_conditionFault_221 (by decide) (Nat.le_of_ble_eq_true rfl) rfl ?_
                                    show WP E ad 222 [some (.ref (ad 71)), some (.int z1959), some (.int z), some (.int (τ.1 86 z.toNatClampNeg))] [] τ1957
                                    refine s_iinc C dX10_conditionFault_222 rfl (by decide) rfl (by decide) (by omega) (fun z1960 tz1960 => ?_)
                                    show WP E ad 225 [some (.ref (ad 71)), some (.int z1959), some (.int z1960), some (.int (τ.1 86 z.toNatClampNeg))] [] τ1957
                                    refine s_goto (tgt := 230) C dX10_conditionFault_225 (by decide) ?_
                                    refine s_iload_n C dX10_conditionFault_230 rfl ?_
                                    refine s_if_ge (tgt := 238) C dX10_conditionFault_231 (by decide) (fun q1961 => ?_) (fun q1961 => ?_)
                                    · refine s_goto (tgt := 9) C dX10_conditionFault_238 (by decide) ?_
                                      refine wp_le (lv' := [some (.ref (ad 71)), some (.int z1959), some (.int z1960), none]) ⟨rfl, ⟨rfl, ⟨rfl, trivial⟩⟩⟩ ?_
                                      have ek1 : z1960.toInt.toNat = z.toInt.toNat + 1 := by omega
                                      exact ih τ1957 (te (te o).tail) z1959 z1960 (Fr.tr (Fr.sV (Fr.tr (Fr.tr Fr.rf (Fr.mo kF (by decide) (by decide))) (Fr.mo h1953.1 (by decide) (by decide))) (Or.inr (by decide))) (Fr.mo h1958.1 (by decide) (by decide))) dτ1957 pτ1957 (by omega) (by omega) (by omega) (fun ⟨f, hf⟩ => hac ⟨f + 1, Or.inr ⟨by omega, Or.inr (Or.inr (Or.inr (Or.inr (Or.inr ⟨by omega, by omega, mh1949.mp (by omega), (by rw [ek1, show z1959.toInt.toNat = 3 by omega] at hf; exact hf)⟩))))⟩⟩) (by omega)
                                    · refine s_iconst C dX10_conditionFault_234 (by decide) (fun z1962 tz1962 => ?_)
                                      refine s_iload_n C dX10_conditionFault_235 rfl ?_
                                      refine s_isub C dX10_conditionFault_236 (by omega) (fun z1963 tz1963 => ?_)
                                      exact s_iret C X dX10_conditionFault_237 ⟨(Fr.tr (Fr.sV (Fr.tr (Fr.tr Fr.rf (Fr.mo kF (by decide) (by decide))) (Fr.mo h1953.1 (by decide) (by decide))) (Or.inr (by decide))) (Fr.mo h1958.1 (by decide) (by decide))), by omega, by omega, fun q => by omega⟩
                            · refine s_iload_n C dX10_conditionFault_167 rfl ?_
                              refine s_iconst C dX10_conditionFault_168 (by decide) (fun z1964 tz1964 => ?_)
                              refine s_icmp_le (tgt := 184) C dX10_conditionFault_169 (by decide) (fun q1965 => ?_) (fun q1965 => ?_)
                              · refine s_iload_n C dX10_conditionFault_184 rfl ?_
                                refine s_bipush C dX10_conditionFault_185 (by decide) (fun z1966 tz1966 => ?_)
                                refine s_icmp_ne (tgt := 228) C dX10_conditionFault_187 (by decide) (fun q1967 => ?_) (fun q1967 => ?_)
                                · refine s_iload_n C dX10_conditionFault_228 rfl ?_
                                  exact s_iret C X dX10_conditionFault_229 ⟨(Fr.tr Fr.rf (Fr.mo kF (by decide) (by decide))), by omega, by omega, fun q => by omega⟩
                                · refine s_iload_n C dX10_conditionFault_190 rfl ?_
                                  refine s_iconst C dX10_conditionFault_191 (by decide) (fun z1968 tz1968 => ?_)
                                  refine s_icmp_le (tgt := 228) C dX10_conditionFault_192 (by decide) (fun q1969 => ?_) (fun q1969 => ?_)
                                  · refine s_iload_n C dX10_conditionFault_228 rfl ?_
                                    exact s_iret C X dX10_conditionFault_229 ⟨(Fr.tr Fr.rf (Fr.mo kF (by decide) (by decide))), by omega, by omega, fun q => by omega⟩
                                  · refine s_aload_n C dX10_conditionFault_195 rfl ?_
                                    refine s_callVI (st := []) C (c_X10_isOpen l ad τ o hd ho (by omega)) cv_X10_269 y71 rfl rfl rfl ⟨by decide, by decide⟩ (Nat.le_of_ble_eq_true rfl) dX10_conditionFault_196 ?_
                                    intro r1970 τ1971 h1972
                                    obtain ⟨eh1972, h1972⟩ := h1972; replace eh1972 := eh1972.symm; subst eh1972
                                    have mh1972 := h1972.2
                                    refine s_if_eq (tgt := 228) C dX10_conditionFault_199 (by decide) (fun q1973 => ?_) (fun q1973 => ?_)
                                    · refine s_iload_n C dX10_conditionFault_228 rfl ?_
                                      exact s_iret C X dX10_conditionFault_229 ⟨(Fr.tr Fr.rf (Fr.mo kF (by decide) (by decide))), by omega, by omega, fun q => by omega⟩
                                    · refine s_aload_n C dX10_conditionFault_202 rfl ?_
                                      refine s_callVV (st := []) C (c_X10_testEnds l ad τ o hd ho (by omega)) cv_X10_266 y71 rfl rfl rfl ⟨by decide, by decide⟩ (Nat.le_of_ble_eq_true rfl) dX10_conditionFault_203 ?_
                                      intro τ1975 h1976
                                      have dτ1975 : Int32.toInt (τ1975.1 71 49) = (te o).length := h1976.2
                                      have pτ1975 : Op (τ1975.1 109) (te o) := by rw [h1976.1.a 109 (by decide) (by decide)]; exact Op_te o ho
                                      have qτ1975 := te_len o
                                      obtain ⟨r6, hr6⟩ := te_hd (mh1972.mp (by omega))
                                      have hl6 : 1 ≤ (te o).length := by rw [hr6]; simp
                                      refine s_aload_n C dX10_conditionFault_206 rfl ?_
                                      refine s_dup C dX10_conditionFault_207 rfl ?_
                                      refine s_get (k := 49) (x := (τ1975.1 71 49)) C y71 fw_X10_260 rfl rfl dX10_conditionFault_208 ?_
                                      refine s_iconst C dX10_conditionFault_211 (by decide) (fun z1977 tz1977 => ?_)
                                      refine s_isub C dX10_conditionFault_212 (by omega) (fun z1978 tz1978 => ?_)
                                      refine s_put (k := 49) C y71 fw_X10_260 fp_9_49 rfl dX10_conditionFault_213 ?_
                                      refine s_aload_n C dX10_conditionFault_216 rfl ?_
                                      refine s_callVV (st := []) C (c_X10_testEnds l ad (sV τ1975 71 49 z1978) (te o).tail (by show Int32.toInt z1978 = _; rw [List.length_tail]; omega) (Op_tail _ pτ1975) (by rw [List.length_tail]; omega)) cv_X10_266 y71 rfl rfl rfl ⟨by decide, by decide⟩ (Nat.le_of_ble_eq_true rfl) dX10_conditionFault_217 ?_
                                      intro τ1980 h1981
                                      have dτ1980 : Int32.toInt (τ1980.1 71 49) = (te (te o).tail).length := h1981.2
                                      have pτ1980 : Op (τ1980.1 109) (te (te o).tail) := by rw [h1981.1.a 109 (by decide) (by decide)]; exact Op_te _ (Op_tail _ pτ1975)
                                      have qτ1980 := te_len (te o).tail
                                      have qqτ1980 : (te o).tail.length = (te o).length - 1 := List.length_tail
                                      skip
                                      refine s_iconst C dX10_conditionFault_220 (by decide) (fun z1982 tz1982 => ?_)
                                      refine s_istore_n C dX10_conditionFault_221 (by decide) (Nat.le_of_ble_eq_true rfl) rfl ?_
                                      show WP E ad 222 [some (.ref (ad 71)), some (.int z1982), some (.int z), some (.int (τ.1 86 z.toNatClampNeg))] [] τ1980
                                      refine s_iinc C dX10_conditionFault_222 rfl (by decide) rfl (by decide) (by omega) (fun z1983 tz1983 => ?_)
                                      show WP E ad 225 [some (.ref (ad 71)), some (.int z1982), some (.int z1983), some (.int (τ.1 86 z.toNatClampNeg))] [] τ1980
                                      refine s_goto (tgt := 230) C dX10_conditionFault_225 (by decide) ?_
                                      refine s_iload_n C dX10_conditionFault_230 rfl ?_
                                      refine s_if_ge (tgt := 238) C dX10_conditionFault_231 (by decide) (fun q1984 => ?_) (fun q1984 => ?_)
                                      · refine s_goto (tgt := 9) C dX10_conditionFault_238 (by decide) ?_
                                        refine wp_le (lv' := [some (.ref (ad 71)), some (.int z1982), some (.int z1983), none]) ⟨rfl, ⟨rfl, ⟨rfl, trivial⟩⟩⟩ ?_
                                        have ek1 : z1983.toInt.toNat = z.toInt.toNat + 1 := by omega
                                        exact ih τ1980 (te (te o).tail) z1982 z1983 (Fr.tr (Fr.sV (Fr.tr (Fr.tr Fr.rf (Fr.mo kF (by decide) (by decide))) (Fr.mo h1976.1 (by decide) (by decide))) (Or.inr (by decide))) (Fr.mo h1981.1 (by decide) (by decide))) dτ1980 pτ1980 (by omega) (by omega) (by omega) (fun ⟨f, hf⟩ => hac ⟨f + 1, Or.inr ⟨by omega, Or.inr (Or.inr (Or.inr (Or.inr (Or.inr ⟨by omega, by omega, mh1972.mp (by omega), (by rw [ek1, show z1982.toInt.toNat = 3 by omega] at hf; exact hf)⟩))))⟩⟩) (by omega)
                                      · refine s_iconst C dX10_conditionFault_234 (by decide) (fun z1985 tz1985 => ?_)
                                        refine s_iload_n C dX10_conditionFault_235 rfl ?_
                                        refine s_isub C dX10_conditionFault_236 (by omega) (fun z1986 tz1986 => ?_)
                                        exact s_iret C X dX10_conditionFault_237 ⟨(Fr.tr (Fr.sV (Fr.tr (Fr.tr Fr.rf (Fr.mo kF (by decide) (by decide))) (Fr.mo h1976.1 (by decide) (by decide))) (Or.inr (by decide))) (Fr.mo h1981.1 (by decide) (by decide))), by omega, by omega, fun q => by omega⟩
                              · refine s_aload_n C dX10_conditionFault_172 rfl ?_
                                refine s_callVV (st := []) C (c_X10_testEnds l ad τ o hd ho (by omega)) cv_X10_266 y71 rfl rfl rfl ⟨by decide, by decide⟩ (Nat.le_of_ble_eq_true rfl) dX10_conditionFault_173 ?_
                                intro τ1988 h1989
                                have dτ1988 : Int32.toInt (τ1988.1 71 49) = (te o).length := h1989.2
                                have pτ1988 : Op (τ1988.1 109) (te o) := by rw [h1989.1.a 109 (by decide) (by decide)]; exact Op_te o ho
                                have qτ1988 := te_len o
                                skip
                                refine s_iconst C dX10_conditionFault_176 (by decide) (fun z1990 tz1990 => ?_)
                                refine s_istore_n C dX10_conditionFault_177 (by decide) (Nat.le_of_ble_eq_true rfl) rfl ?_
                                show WP E ad 178 [some (.ref (ad 71)), some (.int z1990), some (.int z), some (.int (τ.1 86 z.toNatClampNeg))] [] τ1988
                                refine s_iinc C dX10_conditionFault_178 rfl (by decide) rfl (by decide) (by omega) (fun z1991 tz1991 => ?_)
                                show WP E ad 181 [some (.ref (ad 71)), some (.int z1990), some (.int z1991), some (.int (τ.1 86 z.toNatClampNeg))] [] τ1988
                                refine s_goto (tgt := 230) C dX10_conditionFault_181 (by decide) ?_
                                refine s_iload_n C dX10_conditionFault_230 rfl ?_
                                refine s_if_ge (tgt := 238) C dX10_conditionFault_231 (by decide) (fun q1992 => ?_) (fun q1992 => ?_)
                                · refine s_goto (tgt := 9) C dX10_conditionFault_238 (by decide) ?_
                                  refine wp_le (lv' := [some (.ref (ad 71)), some (.int z1990), some (.int z1991), none]) ⟨rfl, ⟨rfl, ⟨rfl, trivial⟩⟩⟩ ?_
                                  have ek1 : z1991.toInt.toNat = z.toInt.toNat + 1 := by omega
                                  exact ih τ1988 (te o) z1990 z1991 (Fr.tr (Fr.tr Fr.rf (Fr.mo kF (by decide) (by decide))) (Fr.mo h1989.1 (by decide) (by decide))) dτ1988 pτ1988 (by omega) (by omega) (by omega) (fun ⟨f, hf⟩ => hac ⟨f + 1, Or.inr ⟨by omega, Or.inr (Or.inr (Or.inr (Or.inr (Or.inl ⟨by omega, by omega, (by rw [ek1, show z1990.toInt.toNat = 0 by omega] at hf; exact hf)⟩))))⟩⟩) (by omega)
                                · refine s_iconst C dX10_conditionFault_234 (by decide) (fun z1993 tz1993 => ?_)
                                  refine s_iload_n C dX10_conditionFault_235 rfl ?_
                                  refine s_isub C dX10_conditionFault_236 (by omega) (fun z1994 tz1994 => ?_)
                                  exact s_iret C X dX10_conditionFault_237 ⟨(Fr.tr (Fr.tr Fr.rf (Fr.mo kF (by decide) (by decide))) (Fr.mo h1989.1 (by decide) (by decide))), by omega, by omega, fun q => by omega⟩
                        · refine s_aload_n C dX10_conditionFault_142 rfl ?_
                          refine s_iload_n C dX10_conditionFault_143 rfl ?_
                          refine s_iconst C dX10_conditionFault_144 (by decide) (fun z1995 tz1995 => ?_)
                          refine s_iadd C dX10_conditionFault_145 (by omega) (fun z1996 tz1996 => ?_)
                          refine s_callVI (st := []) C (c_X10_behindUnit l ad τ z1996 (by omega) (by omega) (by omega)) cv_X10_263 y71 rfl rfl rfl ⟨by decide, by decide⟩ (Nat.le_of_ble_eq_true rfl) dX10_conditionFault_146 ?_
                          intro r1997 τ1998 h1999
                          obtain ⟨eh1999, h1999⟩ := h1999; replace eh1999 := eh1999.symm; subst eh1999
                          have uh1999 := h1999.2.2
                          rw [f0, f17, e86] at uh1999
                          have vh1999 : 0 ≤ Int32.toInt r1997 → Int32.toInt r1997 ≤ Int32.toInt (σ.1 71 17) := fun q => by have := un_le (uh1999 q).2; omega
                          skip
                          refine s_istore_n C dX10_conditionFault_149 (by decide) (Nat.le_of_ble_eq_true rfl) rfl ?_
                          show WP E ad 150 [some (.ref (ad 71)), some (.int y), some (.int r1997), some (.int (τ.1 86 z.toNatClampNeg))] [] τ
                          refine s_iconst C dX10_conditionFault_150 (by decide) (fun z2000 tz2000 => ?_)
                          refine s_istore_n C dX10_conditionFault_151 (by decide) (Nat.le_of_ble_eq_true rfl) rfl ?_
                          show WP E ad 152 [some (.ref (ad 71)), some (.int z2000), some (.int r1997), some (.int (τ.1 86 z.toNatClampNeg))] [] τ
                          refine s_goto (tgt := 230) C dX10_conditionFault_152 (by decide) ?_
                          refine s_iload_n C dX10_conditionFault_230 rfl ?_
                          refine s_if_ge (tgt := 238) C dX10_conditionFault_231 (by decide) (fun q2001 => ?_) (fun q2001 => ?_)
                          · refine s_goto (tgt := 9) C dX10_conditionFault_238 (by decide) ?_
                            refine wp_le (lv' := [some (.ref (ad 71)), some (.int z2000), some (.int r1997), none]) ⟨rfl, ⟨rfl, ⟨rfl, trivial⟩⟩⟩ ?_
                            have ez1 : z1996.toInt.toNat = z.toInt.toNat + 1 := by omega
                            rw [ez1] at uh1999
                            exact ih τ o z2000 r1997 (Fr.tr Fr.rf (Fr.mo kF (by decide) (by decide))) hd ho (by omega) (by omega) (by omega) (fun ⟨f, hf⟩ => hac ⟨f + 1, Or.inr ⟨by omega, Or.inr (Or.inr (Or.inr (Or.inl ⟨by omega, by omega, _, (uh1999 (by omega)).2, (by rw [show z2000.toInt.toNat = 2 by omega] at hf; exact hf)⟩)))⟩⟩) (by omega)
                          · refine s_iconst C dX10_conditionFault_234 (by decide) (fun z2002 tz2002 => ?_)
                            refine s_iload_n C dX10_conditionFault_235 rfl ?_
                            refine s_isub C dX10_conditionFault_236 (by omega) (fun z2003 tz2003 => ?_)
                            exact s_iret C X dX10_conditionFault_237 ⟨(Fr.tr Fr.rf (Fr.mo kF (by decide) (by decide))), by omega, by omega, fun q => by omega⟩
                · refine s_iload_n C dX10_conditionFault_103 rfl ?_
                  refine s_iconst C dX10_conditionFault_104 (by decide) (fun z2004 tz2004 => ?_)
                  refine s_icmp_ge (tgt := 119) C dX10_conditionFault_105 (by decide) (fun q2005 => ?_) (fun q2005 => ?_)
                  · refine s_iload_n C dX10_conditionFault_119 rfl ?_
                    refine s_bipush C dX10_conditionFault_120 (by decide) (fun z2006 tz2006 => ?_)
                    refine s_icmp_eq (tgt := 137) C dX10_conditionFault_122 (by decide) (fun q2007 => ?_) (fun q2007 => ?_)
                    · refine s_iload_n C dX10_conditionFault_137 rfl ?_
                      refine s_iconst C dX10_conditionFault_138 (by decide) (fun z2008 tz2008 => ?_)
                      refine s_icmp_ne (tgt := 155) C dX10_conditionFault_139 (by decide) (fun q2009 => ?_) (fun q2009 => ?_)
                      · refine s_iload_n C dX10_conditionFault_155 rfl ?_
                        refine s_bipush C dX10_conditionFault_156 (by decide) (fun z2010 tz2010 => ?_)
                        refine s_icmp_eq (tgt := 167) C dX10_conditionFault_158 (by decide) (fun q2011 => ?_) (fun q2011 => ?_)
                        · refine s_iload_n C dX10_conditionFault_167 rfl ?_
                          refine s_iconst C dX10_conditionFault_168 (by decide) (fun z2012 tz2012 => ?_)
                          refine s_icmp_le (tgt := 184) C dX10_conditionFault_169 (by decide) (fun q2013 => ?_) (fun q2013 => ?_)
                          · refine s_iload_n C dX10_conditionFault_184 rfl ?_
                            refine s_bipush C dX10_conditionFault_185 (by decide) (fun z2014 tz2014 => ?_)
                            refine s_icmp_ne (tgt := 228) C dX10_conditionFault_187 (by decide) (fun q2015 => ?_) (fun q2015 => ?_)
                            · refine s_iload_n C dX10_conditionFault_228 rfl ?_
                              exact s_iret C X dX10_conditionFault_229 ⟨(Fr.tr Fr.rf (Fr.mo kF (by decide) (by decide))), by omega, by omega, fun q => by omega⟩
                            · refine s_iload_n C dX10_conditionFault_190 rfl ?_
                              refine s_iconst C dX10_conditionFault_191 (by decide) (fun z2016 tz2016 => ?_)
                              refine s_icmp_le (tgt := 228) C dX10_conditionFault_192 (by decide) (fun q2017 => ?_) (fun q2017 => ?_)
                              · refine s_iload_n C dX10_conditionFault_228 rfl ?_
                                exact s_iret C X dX10_conditionFault_229 ⟨(Fr.tr Fr.rf (Fr.mo kF (by decide) (by decide))), by omega, by omega, fun q => by omega⟩
                              · refine s_aload_n C dX10_conditionFault_195 rfl ?_
                                refine s_callVI (st := []) C (c_X10_isOpen l ad τ o hd ho (by omega)) cv_X10_269 y71 rfl rfl rfl ⟨by decide, by decide⟩ (Nat.le_of_ble_eq_true rfl) dX10_conditionFault_196 ?_
                                intro r2018 τ2019 h2020
                                obtain ⟨eh2020, h2020⟩ := h2020; replace eh2020 := eh2020.symm; subst eh2020
                                have mh2020 := h2020.2
                                refine s_if_eq (tgt := 228) C dX10_conditionFault_199 (by decide) (fun q2021 => ?_) (fun q2021 => ?_)
                                · refine s_iload_n C dX10_conditionFault_228 rfl ?_
                                  exact s_iret C X dX10_conditionFault_229 ⟨(Fr.tr Fr.rf (Fr.mo kF (by decide) (by decide))), by omega, by omega, fun q => by omega⟩
                                · refine s_aload_n C dX10_conditionFault_202 rfl ?_
                                  refine s_callVV (st := []) C (c_X10_testEnds l ad τ o hd ho (by omega)) cv_X10_266 y71 rfl rfl rfl ⟨by decide, by decide⟩ (Nat.le_of_ble_eq_true rfl) dX10_conditionFault_203 ?_
                                  intro τ2023 h2024
                                  have dτ2023 : Int32.toInt (τ2023.1 71 49) = (te o).length := h2024.2
                                  have pτ2023 : Op (τ2023.1 109) (te o) := by rw [h2024.1.a 109 (by decide) (by decide)]; exact Op_te o ho
                                  have qτ2023 := te_len o
                                  obtain ⟨r6, hr6⟩ := te_hd (mh2020.mp (by omega))
                                  have hl6 : 1 ≤ (te o).length := by rw [hr6]; simp
                                  refine s_aload_n C dX10_conditionFault_206 rfl ?_
                                  refine s_dup C dX10_conditionFault_207 rfl ?_
                                  refine s_get (k := 49) (x := (τ2023.1 71 49)) C y71 fw_X10_260 rfl rfl dX10_conditionFault_208 ?_
                                  refine s_iconst C dX10_conditionFault_211 (by decide) (fun z2025 tz2025 => ?_)
                                  refine s_isub C dX10_conditionFault_212 (by omega) (fun z2026 tz2026 => ?_)
                                  refine s_put (k := 49) C y71 fw_X10_260 fp_9_49 rfl dX10_conditionFault_213 ?_
                                  refine s_aload_n C dX10_conditionFault_216 rfl ?_
                                  refine s_callVV (st := []) C (c_X10_testEnds l ad (sV τ2023 71 49 z2026) (te o).tail (by show Int32.toInt z2026 = _; rw [List.length_tail]; omega) (Op_tail _ pτ2023) (by rw [List.length_tail]; omega)) cv_X10_266 y71 rfl rfl rfl ⟨by decide, by decide⟩ (Nat.le_of_ble_eq_true rfl) dX10_conditionFault_217 ?_
                                  intro τ2028 h2029
                                  have dτ2028 : Int32.toInt (τ2028.1 71 49) = (te (te o).tail).length := h2029.2
                                  have pτ2028 : Op (τ2028.1 109) (te (te o).tail) := by rw [h2029.1.a 109 (by decide) (by decide)]; exact Op_te _ (Op_tail _ pτ2023)
                                  have qτ2028 := te_len (te o).tail
                                  have qqτ2028 : (te o).tail.length = (te o).length - 1 := List.length_tail
                                  skip
                                  refine s_iconst C dX10_conditionFault_220 (by decide) (fun z2030 tz2030 => ?_)
                                  refine s_istore_n C dX10_conditionFault_221 (by decide) (Nat.le_of_ble_eq_true rfl) rfl ?_
                                  show WP E ad 222 [some (.ref (ad 71)), some (.int z2030), some (.int z), some (.int (τ.1 86 z.toNatClampNeg))] [] τ2028
                                  refine s_iinc C dX10_conditionFault_222 rfl (by decide) rfl (by decide) (by omega) (fun z2031 tz2031 => ?_)
                                  show WP E ad 225 [some (.ref (ad 71)), some (.int z2030), some (.int z2031), some (.int (τ.1 86 z.toNatClampNeg))] [] τ2028
                                  refine s_goto (tgt := 230) C dX10_conditionFault_225 (by decide) ?_
                                  refine s_iload_n C dX10_conditionFault_230 rfl ?_
                                  refine s_if_ge (tgt := 238) C dX10_conditionFault_231 (by decide) (fun q2032 => ?_) (fun q2032 => ?_)
                                  · refine s_goto (tgt := 9) C dX10_conditionFault_238 (by decide) ?_
                                    refine wp_le (lv' := [some (.ref (ad 71)), some (.int z2030), some (.int z2031), none]) ⟨rfl, ⟨rfl, ⟨rfl, trivial⟩⟩⟩ ?_
                                    have ek1 : z2031.toInt.toNat = z.toInt.toNat + 1 := by omega
                                    exact ih τ2028 (te (te o).tail) z2030 z2031 (Fr.tr (Fr.sV (Fr.tr (Fr.tr Fr.rf (Fr.mo kF (by decide) (by decide))) (Fr.mo h2024.1 (by decide) (by decide))) (Or.inr (by decide))) (Fr.mo h2029.1 (by decide) (by decide))) dτ2028 pτ2028 (by omega) (by omega) (by omega) (fun ⟨f, hf⟩ => hac ⟨f + 1, Or.inr ⟨by omega, Or.inr (Or.inr (Or.inr (Or.inr (Or.inr ⟨by omega, by omega, mh2020.mp (by omega), (by rw [ek1, show z2030.toInt.toNat = 3 by omega] at hf; exact hf)⟩))))⟩⟩) (by omega)
                                  · refine s_iconst C dX10_conditionFault_234 (by decide) (fun z2033 tz2033 => ?_)
                                    refine s_iload_n C dX10_conditionFault_235 rfl ?_
                                    refine s_isub C dX10_conditionFault_236 (by omega) (fun z2034 tz2034 => ?_)
                                    exact s_iret C X dX10_conditionFault_237 ⟨(Fr.tr (Fr.sV (Fr.tr (Fr.tr Fr.rf (Fr.mo kF (by decide) (by decide))) (Fr.mo h2024.1 (by decide) (by decide))) (Or.inr (by decide))) (Fr.mo h2029.1 (by decide) (by decide))), by omega, by omega, fun q => by omega⟩
                          · refine s_aload_n C dX10_conditionFault_172 rfl ?_
                            refine s_callVV (st := []) C (c_X10_testEnds l ad τ o hd ho (by omega)) cv_X10_266 y71 rfl rfl rfl ⟨by decide, by decide⟩ (Nat.le_of_ble_eq_true rfl) dX10_conditionFault_173 ?_
                            intro τ2036 h2037
                            have dτ2036 : Int32.toInt (τ2036.1 71 49) = (te o).length := h2037.2
                            have pτ2036 : Op (τ2036.1 109) (te o) := by rw [h2037.1.a 109 (by decide) (by decide)]; exact Op_te o ho
                            have qτ2036 := te_len o
                            skip
                            refine s_iconst C dX10_conditionFault_176 (by decide) (fun z2038 tz2038 => ?_)
                            refine s_istore_n C dX10_conditionFault_177 (by decide) (Nat.le_of_ble_eq_true rfl) rfl ?_
                            show WP E ad 178 [some (.ref (ad 71)), some (.int z2038), some (.int z), some (.int (τ.1 86 z.toNatClampNeg))] [] τ2036
                            refine s_iinc C dX10_conditionFault_178 rfl (by decide) rfl (by decide) (by omega) (fun z2039 tz2039 => ?_)
                            show WP E ad 181 [some (.ref (ad 71)), some (.int z2038), some (.int z2039), some (.int (τ.1 86 z.toNatClampNeg))] [] τ2036
                            refine s_goto (tgt := 230) C dX10_conditionFault_181 (by decide) ?_
                            refine s_iload_n C dX10_conditionFault_230 rfl ?_
                            refine s_if_ge (tgt := 238) C dX10_conditionFault_231 (by decide) (fun q2040 => ?_) (fun q2040 => ?_)
                            · refine s_goto (tgt := 9) C dX10_conditionFault_238 (by decide) ?_
                              refine wp_le (lv' := [some (.ref (ad 71)), some (.int z2038), some (.int z2039), none]) ⟨rfl, ⟨rfl, ⟨rfl, trivial⟩⟩⟩ ?_
                              have ek1 : z2039.toInt.toNat = z.toInt.toNat + 1 := by omega
                              exact ih τ2036 (te o) z2038 z2039 (Fr.tr (Fr.tr Fr.rf (Fr.mo kF (by decide) (by decide))) (Fr.mo h2037.1 (by decide) (by decide))) dτ2036 pτ2036 (by omega) (by omega) (by omega) (fun ⟨f, hf⟩ => hac ⟨f + 1, Or.inr ⟨by omega, Or.inr (Or.inr (Or.inr (Or.inr (Or.inl ⟨by omega, by omega, (by rw [ek1, show z2038.toInt.toNat = 0 by omega] at hf; exact hf)⟩))))⟩⟩) (by omega)
                            · refine s_iconst C dX10_conditionFault_234 (by decide) (fun z2041 tz2041 => ?_)
                              refine s_iload_n C dX10_conditionFault_235 rfl ?_
                              refine s_isub C dX10_conditionFault_236 (by omega) (fun z2042 tz2042 => ?_)
                              exact s_iret C X dX10_conditionFault_237 ⟨(Fr.tr (Fr.tr Fr.rf (Fr.mo kF (by decide) (by decide))) (Fr.mo h2037.1 (by decide) (by decide))), by omega, by omega, fun q => by omega⟩
                        · refine s_iload_n C dX10_conditionFault_161 rfl ?_
                          refine s_bipush C dX10_conditionFault_162 (by decide) (fun z2043 tz2043 => ?_)
                          refine s_icmp_ne (tgt := 184) C dX10_conditionFault_164 (by decide) (fun q2044 => ?_) (fun q2044 => ?_)
                          · refine s_iload_n C dX10_conditionFault_184 rfl ?_
                            refine s_bipush C dX10_conditionFault_185 (by decide) (fun z2045 tz2045 => ?_)
                            refine s_icmp_ne (tgt := 228) C dX10_conditionFault_187 (by decide) (fun q2046 => ?_) (fun q2046 => ?_)
                            · refine s_iload_n C dX10_conditionFault_228 rfl ?_
                              exact s_iret C X dX10_conditionFault_229 ⟨(Fr.tr Fr.rf (Fr.mo kF (by decide) (by decide))), by omega, by omega, fun q => by omega⟩
                            · refine s_iload_n C dX10_conditionFault_190 rfl ?_
                              refine s_iconst C dX10_conditionFault_191 (by decide) (fun z2047 tz2047 => ?_)
                              refine s_icmp_le (tgt := 228) C dX10_conditionFault_192 (by decide) (fun q2048 => ?_) (fun q2048 => ?_)
                              · refine s_iload_n C dX10_conditionFault_228 rfl ?_
                                exact s_iret C X dX10_conditionFault_229 ⟨(Fr.tr Fr.rf (Fr.mo kF (by decide) (by decide))), by omega, by omega, fun q => by omega⟩
                              · refine s_aload_n C dX10_conditionFault_195 rfl ?_
                                refine s_callVI (st := []) C (c_X10_isOpen l ad τ o hd ho (by omega)) cv_X10_269 y71 rfl rfl rfl ⟨by decide, by decide⟩ (Nat.le_of_ble_eq_true rfl) dX10_conditionFault_196 ?_
                                intro r2049 τ2050 h2051
                                obtain ⟨eh2051, h2051⟩ := h2051; replace eh2051 := eh2051.symm; subst eh2051
                                have mh2051 := h2051.2
                                refine s_if_eq (tgt := 228) C dX10_conditionFault_199 (by decide) (fun q2052 => ?_) (fun q2052 => ?_)
                                · refine s_iload_n C dX10_conditionFault_228 rfl ?_
                                  exact s_iret C X dX10_conditionFault_229 ⟨(Fr.tr Fr.rf (Fr.mo kF (by decide) (by decide))), by omega, by omega, fun q => by omega⟩
                                · refine s_aload_n C dX10_conditionFault_202 rfl ?_
                                  refine s_callVV (st := []) C (c_X10_testEnds l ad τ o hd ho (by omega)) cv_X10_266 y71 rfl rfl rfl ⟨by decide, by decide⟩ (Nat.le_of_ble_eq_true rfl) dX10_conditionFault_203 ?_
                                  intro τ2054 h2055
                                  have dτ2054 : Int32.toInt (τ2054.1 71 49) = (te o).length := h2055.2
                                  have pτ2054 : Op (τ2054.1 109) (te o) := by rw [h2055.1.a 109 (by decide) (by decide)]; exact Op_te o ho
                                  have qτ2054 := te_len o
                                  obtain ⟨r6, hr6⟩ := te_hd (mh2051.mp (by omega))
                                  have hl6 : 1 ≤ (te o).length := by rw [hr6]; simp
                                  refine s_aload_n C dX10_conditionFault_206 rfl ?_
                                  refine s_dup C dX10_conditionFault_207 rfl ?_
                                  refine s_get (k := 49) (x := (τ2054.1 71 49)) C y71 fw_X10_260 rfl rfl dX10_conditionFault_208 ?_
                                  refine s_iconst C dX10_conditionFault_211 (by decide) (fun z2056 tz2056 => ?_)
                                  refine s_isub C dX10_conditionFault_212 (by omega) (fun z2057 tz2057 => ?_)
                                  refine s_put (k := 49) C y71 fw_X10_260 fp_9_49 rfl dX10_conditionFault_213 ?_
                                  refine s_aload_n C dX10_conditionFault_216 rfl ?_
                                  refine s_callVV (st := []) C (c_X10_testEnds l ad (sV τ2054 71 49 z2057) (te o).tail (by show Int32.toInt z2057 = _; rw [List.length_tail]; omega) (Op_tail _ pτ2054) (by rw [List.length_tail]; omega)) cv_X10_266 y71 rfl rfl rfl ⟨by decide, by decide⟩ (Nat.le_of_ble_eq_true rfl) dX10_conditionFault_217 ?_
                                  intro τ2059 h2060
                                  have dτ2059 : Int32.toInt (τ2059.1 71 49) = (te (te o).tail).length := h2060.2
                                  have pτ2059 : Op (τ2059.1 109) (te (te o).tail) := by rw [h2060.1.a 109 (by decide) (by decide)]; exact Op_te _ (Op_tail _ pτ2054)
                                  have qτ2059 := te_len (te o).tail
                                  have qqτ2059 : (te o).tail.length = (te o).length - 1 := List.length_tail
                                  skip
                                  refine s_iconst C dX10_conditionFault_220 (by decide) (fun z2061 tz2061 => ?_)
                                  refine s_istore_n C dX10_conditionFault_221 (by decide) (Nat.le_of_ble_eq_true rfl) rfl ?_
                                  show WP E ad 222 [some (.ref (ad 71)), some (.int z2061), some (.int z), some (.int (τ.1 86 z.toNatClampNeg))] [] τ2059
                                  refine s_iinc C dX10_conditionFault_222 rfl (by decide) rfl (by decide) (by omega) (fun z2062 tz2062 => ?_)
                                  show WP E ad 225 [some (.ref (ad 71)), some (.int z2061), some (.int z2062), some (.int (τ.1 86 z.toNatClampNeg))] [] τ2059
                                  refine s_goto (tgt := 230) C dX10_conditionFault_225 (by decide) ?_
                                  refine s_iload_n C dX10_conditionFault_230 rfl ?_
                                  refine s_if_ge (tgt := 238) C dX10_conditionFault_231 (by decide) (fun q2063 => ?_) (fun q2063 => ?_)
                                  · refine s_goto (tgt := 9) C dX10_conditionFault_238 (by decide) ?_
                                    refine wp_le (lv' := [some (.ref (ad 71)), some (.int z2061), some (.int z2062), none]) ⟨rfl, ⟨rfl, ⟨rfl, trivial⟩⟩⟩ ?_
                                    have ek1 : z2062.toInt.toNat = z.toInt.toNat + 1 := by omega
                                    exact ih τ2059 (te (te o).tail) z2061 z2062 (Fr.tr (Fr.sV (Fr.tr (Fr.tr Fr.rf (Fr.mo kF (by decide) (by decide))) (Fr.mo h2055.1 (by decide) (by decide))) (Or.inr (by decide))) (Fr.mo h2060.1 (by decide) (by decide))) dτ2059 pτ2059 (by omega) (by omega) (by omega) (fun ⟨f, hf⟩ => hac ⟨f + 1, Or.inr ⟨by omega, Or.inr (Or.inr (Or.inr (Or.inr (Or.inr ⟨by omega, by omega, mh2051.mp (by omega), (by rw [ek1, show z2061.toInt.toNat = 3 by omega] at hf; exact hf)⟩))))⟩⟩) (by omega)
                                  · refine s_iconst C dX10_conditionFault_234 (by decide) (fun z2064 tz2064 => ?_)
                                    refine s_iload_n C dX10_conditionFault_235 rfl ?_
                                    refine s_isub C dX10_conditionFault_236 (by omega) (fun z2065 tz2065 => ?_)
                                    exact s_iret C X dX10_conditionFault_237 ⟨(Fr.tr (Fr.sV (Fr.tr (Fr.tr Fr.rf (Fr.mo kF (by decide) (by decide))) (Fr.mo h2055.1 (by decide) (by decide))) (Or.inr (by decide))) (Fr.mo h2060.1 (by decide) (by decide))), by omega, by omega, fun q => by omega⟩
                          · refine s_iload_n C dX10_conditionFault_167 rfl ?_
                            refine s_iconst C dX10_conditionFault_168 (by decide) (fun z2066 tz2066 => ?_)
                            refine s_icmp_le (tgt := 184) C dX10_conditionFault_169 (by decide) (fun q2067 => ?_) (fun q2067 => ?_)
                            · refine s_iload_n C dX10_conditionFault_184 rfl ?_
                              refine s_bipush C dX10_conditionFault_185 (by decide) (fun z2068 tz2068 => ?_)
                              refine s_icmp_ne (tgt := 228) C dX10_conditionFault_187 (by decide) (fun q2069 => ?_) (fun q2069 => ?_)
                              · refine s_iload_n C dX10_conditionFault_228 rfl ?_
                                exact s_iret C X dX10_conditionFault_229 ⟨(Fr.tr Fr.rf (Fr.mo kF (by decide) (by decide))), by omega, by omega, fun q => by omega⟩
                              · refine s_iload_n C dX10_conditionFault_190 rfl ?_
                                refine s_iconst C dX10_conditionFault_191 (by decide) (fun z2070 tz2070 => ?_)
                                refine s_icmp_le (tgt := 228) C dX10_conditionFault_192 (by decide) (fun q2071 => ?_) (fun q2071 => ?_)
                                · refine s_iload_n C dX10_conditionFault_228 rfl ?_
                                  exact s_iret C X dX10_conditionFault_229 ⟨(Fr.tr Fr.rf (Fr.mo kF (by decide) (by decide))), by omega, by omega, fun q => by omega⟩
                                · refine s_aload_n C dX10_conditionFault_195 rfl ?_
                                  refine s_callVI (st := []) C (c_X10_isOpen l ad τ o hd ho (by omega)) cv_X10_269 y71 rfl rfl rfl ⟨by decide, by decide⟩ (Nat.le_of_ble_eq_true rfl) dX10_conditionFault_196 ?_
                                  intro r2072 τ2073 h2074
                                  obtain ⟨eh2074, h2074⟩ := h2074; replace eh2074 := eh2074.symm; subst eh2074
                                  have mh2074 := h2074.2
                                  refine s_if_eq (tgt := 228) C dX10_conditionFault_199 (by decide) (fun q2075 => ?_) (fun q2075 => ?_)
                                  · refine s_iload_n C dX10_conditionFault_228 rfl ?_
                                    exact s_iret C X dX10_conditionFault_229 ⟨(Fr.tr Fr.rf (Fr.mo kF (by decide) (by decide))), by omega, by omega, fun q => by omega⟩
                                  · refine s_aload_n C dX10_conditionFault_202 rfl ?_
                                    refine s_callVV (st := []) C (c_X10_testEnds l ad τ o hd ho (by omega)) cv_X10_266 y71 rfl rfl rfl ⟨by decide, by decide⟩ (Nat.le_of_ble_eq_true rfl) dX10_conditionFault_203 ?_
                                    intro τ2077 h2078
                                    have dτ2077 : Int32.toInt (τ2077.1 71 49) = (te o).length := h2078.2
                                    have pτ2077 : Op (τ2077.1 109) (te o) := by rw [h2078.1.a 109 (by decide) (by decide)]; exact Op_te o ho
                                    have qτ2077 := te_len o
                                    obtain ⟨r6, hr6⟩ := te_hd (mh2074.mp (by omega))
                                    have hl6 : 1 ≤ (te o).length := by rw [hr6]; simp
                                    refine s_aload_n C dX10_conditionFault_206 rfl ?_
                                    refine s_dup C dX10_conditionFault_207 rfl ?_
                                    refine s_get (k := 49) (x := (τ2077.1 71 49)) C y71 fw_X10_260 rfl rfl dX10_conditionFault_208 ?_
                                    refine s_iconst C dX10_conditionFault_211 (by decide) (fun z2079 tz2079 => ?_)
                                    refine s_isub C dX10_conditionFault_212 (by omega) (fun z2080 tz2080 => ?_)
                                    refine s_put (k := 49) C y71 fw_X10_260 fp_9_49 rfl dX10_conditionFault_213 ?_
                                    refine s_aload_n C dX10_conditionFault_216 rfl ?_
                                    refine s_callVV (st := []) C (c_X10_testEnds l ad (sV τ2077 71 49 z2080) (te o).tail (by show Int32.toInt z2080 = _; rw [List.length_tail]; omega) (Op_tail _ pτ2077) (by rw [List.length_tail]; omega)) cv_X10_266 y71 rfl rfl rfl ⟨by decide, by decide⟩ (Nat.le_of_ble_eq_true rfl) dX10_conditionFault_217 ?_
                                    intro τ2082 h2083
                                    have dτ2082 : Int32.toInt (τ2082.1 71 49) = (te (te o).tail).length := h2083.2
                                    have pτ2082 : Op (τ2082.1 109) (te (te o).tail) := by rw [h2083.1.a 109 (by decide) (by decide)]; exact Op_te _ (Op_tail _ pτ2077)
                                    have qτ2082 := te_len (te o).tail
                                    have qqτ2082 : (te o).tail.length = (te o).length - 1 := List.length_tail
                                    skip
                                    refine s_iconst C dX10_conditionFault_220 (by decide) (fun z2084 tz2084 => ?_)
                                    refine s_istore_n C dX10_conditionFault_221 (by decide) (Nat.le_of_ble_eq_true rfl) rfl ?_
                                    show WP E ad 222 [some (.ref (ad 71)), some (.int z2084), some (.int z), some (.int (τ.1 86 z.toNatClampNeg))] [] τ2082
                                    refine s_iinc C dX10_conditionFault_222 rfl (by decide) rfl (by decide) (by omega) (fun z2085 tz2085 => ?_)
                                    show WP E ad 225 [some (.ref (ad 71)), some (.int z2084), some (.int z2085), some (.int (τ.1 86 z.toNatClampNeg))] [] τ2082
                                    refine s_goto (tgt := 230) C dX10_conditionFault_225 (by decide) ?_
                                    refine s_iload_n C dX10_conditionFault_230 rfl ?_
                                    refine s_if_ge (tgt := 238) C dX10_conditionFault_231 (by decide) (fun q2086 => ?_) (fun q2086 => ?_)
                                    · refine s_goto (tgt := 9) C dX10_conditionFault_238 (by decide) ?_
                                      refine wp_le (lv' := [some (.ref (ad 71)), some (.int z2084), some (.int z2085), none]) ⟨rfl, ⟨rfl, ⟨rfl, trivial⟩⟩⟩ ?_
                                      have ek1 : z2085.toInt.toNat = z.toInt.toNat + 1 := by omega
                                      exact ih τ2082 (te (te o).tail) z2084 z2085 (Fr.tr (Fr.sV (Fr.tr (Fr.tr Fr.rf (Fr.mo kF (by decide) (by decide))) (Fr.mo h2078.1 (by decide) (by decide))) (Or.inr (by decide))) (Fr.mo h2083.1 (by decide) (by decide))) dτ2082 pτ2082 (by omega) (by omega) (by omega) (fun ⟨f, hf⟩ => hac ⟨f + 1, Or.inr ⟨by omega, Or.inr (Or.inr (Or.inr (Or.inr (Or.inr ⟨by omega, by omega, mh2074.mp (by omega), (by rw [ek1, show z2084.toInt.toNat = 3 by omega] at hf; exact hf)⟩))))⟩⟩) (by omega)
                                    · refine s_iconst C dX10_conditionFault_234 (by decide) (fun z2087 tz2087 => ?_)
                                      refine s_iload_n C dX10_conditionFault_235 rfl ?_
                                      refine s_isub C dX10_conditionFault_236 (by omega) (fun z2088 tz2088 => ?_)
                                      exact s_iret C X dX10_conditionFault_237 ⟨(Fr.tr (Fr.sV (Fr.tr (Fr.tr Fr.rf (Fr.mo kF (by decide) (by decide))) (Fr.mo h2078.1 (by decide) (by decide))) (Or.inr (by decide))) (Fr.mo h2083.1 (by decide) (by decide))), by omega, by omega, fun q => by omega⟩
                            · refine s_aload_n C dX10_conditionFault_172 rfl ?_
                              refine s_callVV (st := []) C (c_X10_testEnds l ad τ o hd ho (by omega)) cv_X10_266 y71 rfl rfl rfl ⟨by decide, by decide⟩ (Nat.le_of_ble_eq_true rfl) dX10_conditionFault_173 ?_
                              intro τ2090 h2091
                              have dτ2090 : Int32.toInt (τ2090.1 71 49) = (te o).length := h2091.2
                              have pτ2090 : Op (τ2090.1 109) (te o) := by rw [h2091.1.a 109 (by decide) (by decide)]; exact Op_te o ho
                              have qτ2090 := te_len o
                              skip
                              refine s_iconst C dX10_conditionFault_176 (by decide) (fun z2092 tz2092 => ?_)
                              refine s_istore_n C dX10_conditionFault_177 (by decide) (Nat.le_of_ble_eq_true rfl) rfl ?_
                              show WP E ad 178 [some (.ref (ad 71)), some (.int z2092), some (.int z), some (.int (τ.1 86 z.toNatClampNeg))] [] τ2090
                              refine s_iinc C dX10_conditionFault_178 rfl (by decide) rfl (by decide) (by omega) (fun z2093 tz2093 => ?_)
                              show WP E ad 181 [some (.ref (ad 71)), some (.int z2092), some (.int z2093), some (.int (τ.1 86 z.toNatClampNeg))] [] τ2090
                              refine s_goto (tgt := 230) C dX10_conditionFault_181 (by decide) ?_
                              refine s_iload_n C dX10_conditionFault_230 rfl ?_
                              refine s_if_ge (tgt := 238) C dX10_conditionFault_231 (by decide) (fun q2094 => ?_) (fun q2094 => ?_)
                              · refine s_goto (tgt := 9) C dX10_conditionFault_238 (by decide) ?_
                                refine wp_le (lv' := [some (.ref (ad 71)), some (.int z2092), some (.int z2093), none]) ⟨rfl, ⟨rfl, ⟨rfl, trivial⟩⟩⟩ ?_
                                have ek1 : z2093.toInt.toNat = z.toInt.toNat + 1 := by omega
                                exact ih τ2090 (te o) z2092 z2093 (Fr.tr (Fr.tr Fr.rf (Fr.mo kF (by decide) (by decide))) (Fr.mo h2091.1 (by decide) (by decide))) dτ2090 pτ2090 (by omega) (by omega) (by omega) (fun ⟨f, hf⟩ => hac ⟨f + 1, Or.inr ⟨by omega, Or.inr (Or.inr (Or.inr (Or.inr (Or.inl ⟨by omega, by omega, (by rw [ek1, show z2092.toInt.toNat = 0 by omega] at hf; exact hf)⟩))))⟩⟩) (by omega)
                              · refine s_iconst C dX10_conditionFault_234 (by decide) (fun z2095 tz2095 => ?_)
                                refine s_iload_n C dX10_conditionFault_235 rfl ?_
                                refine s_isub C dX10_conditionFault_236 (by omega) (fun z2096 tz2096 => ?_)
                                exact s_iret C X dX10_conditionFault_237 ⟨(Fr.tr (Fr.tr Fr.rf (Fr.mo kF (by decide) (by decide))) (Fr.mo h2091.1 (by decide) (by decide))), by omega, by omega, fun q => by omega⟩
                      · refine s_aload_n C dX10_conditionFault_142 rfl ?_
                        refine s_iload_n C dX10_conditionFault_143 rfl ?_
                        refine s_iconst C dX10_conditionFault_144 (by decide) (fun z2097 tz2097 => ?_)
                        refine s_iadd C dX10_conditionFault_145 (by omega) (fun z2098 tz2098 => ?_)
                        refine s_callVI (st := []) C (c_X10_behindUnit l ad τ z2098 (by omega) (by omega) (by omega)) cv_X10_263 y71 rfl rfl rfl ⟨by decide, by decide⟩ (Nat.le_of_ble_eq_true rfl) dX10_conditionFault_146 ?_
                        intro r2099 τ2100 h2101
                        obtain ⟨eh2101, h2101⟩ := h2101; replace eh2101 := eh2101.symm; subst eh2101
                        have uh2101 := h2101.2.2
                        rw [f0, f17, e86] at uh2101
                        have vh2101 : 0 ≤ Int32.toInt r2099 → Int32.toInt r2099 ≤ Int32.toInt (σ.1 71 17) := fun q => by have := un_le (uh2101 q).2; omega
                        skip
                        refine s_istore_n C dX10_conditionFault_149 (by decide) (Nat.le_of_ble_eq_true rfl) rfl ?_
                        show WP E ad 150 [some (.ref (ad 71)), some (.int y), some (.int r2099), some (.int (τ.1 86 z.toNatClampNeg))] [] τ
                        refine s_iconst C dX10_conditionFault_150 (by decide) (fun z2102 tz2102 => ?_)
                        refine s_istore_n C dX10_conditionFault_151 (by decide) (Nat.le_of_ble_eq_true rfl) rfl ?_
                        show WP E ad 152 [some (.ref (ad 71)), some (.int z2102), some (.int r2099), some (.int (τ.1 86 z.toNatClampNeg))] [] τ
                        refine s_goto (tgt := 230) C dX10_conditionFault_152 (by decide) ?_
                        refine s_iload_n C dX10_conditionFault_230 rfl ?_
                        refine s_if_ge (tgt := 238) C dX10_conditionFault_231 (by decide) (fun q2103 => ?_) (fun q2103 => ?_)
                        · refine s_goto (tgt := 9) C dX10_conditionFault_238 (by decide) ?_
                          refine wp_le (lv' := [some (.ref (ad 71)), some (.int z2102), some (.int r2099), none]) ⟨rfl, ⟨rfl, ⟨rfl, trivial⟩⟩⟩ ?_
                          have ez1 : z2098.toInt.toNat = z.toInt.toNat + 1 := by omega
                          rw [ez1] at uh2101
                          exact ih τ o z2102 r2099 (Fr.tr Fr.rf (Fr.mo kF (by decide) (by decide))) hd ho (by omega) (by omega) (by omega) (fun ⟨f, hf⟩ => hac ⟨f + 1, Or.inr ⟨by omega, Or.inr (Or.inr (Or.inr (Or.inl ⟨by omega, by omega, _, (uh2101 (by omega)).2, (by rw [show z2102.toInt.toNat = 2 by omega] at hf; exact hf)⟩)))⟩⟩) (by omega)
                        · refine s_iconst C dX10_conditionFault_234 (by decide) (fun z2104 tz2104 => ?_)
                          refine s_iload_n C dX10_conditionFault_235 rfl ?_
                          refine s_isub C dX10_conditionFault_236 (by omega) (fun z2105 tz2105 => ?_)
                          exact s_iret C X dX10_conditionFault_237 ⟨(Fr.tr Fr.rf (Fr.mo kF (by decide) (by decide))), by omega, by omega, fun q => by omega⟩
                    · refine s_iload_n C dX10_conditionFault_125 rfl ?_
                      refine s_bipush C dX10_conditionFault_126 (by decide) (fun z2106 tz2106 => ?_)
                      refine s_icmp_eq (tgt := 137) C dX10_conditionFault_128 (by decide) (fun q2107 => ?_) (fun q2107 => ?_)
                      · refine s_iload_n C dX10_conditionFault_137 rfl ?_
                        refine s_iconst C dX10_conditionFault_138 (by decide) (fun z2108 tz2108 => ?_)
                        refine s_icmp_ne (tgt := 155) C dX10_conditionFault_139 (by decide) (fun q2109 => ?_) (fun q2109 => ?_)
                        · refine s_iload_n C dX10_conditionFault_155 rfl ?_
                          refine s_bipush C dX10_conditionFault_156 (by decide) (fun z2110 tz2110 => ?_)
                          refine s_icmp_eq (tgt := 167) C dX10_conditionFault_158 (by decide) (fun q2111 => ?_) (fun q2111 => ?_)
                          · refine s_iload_n C dX10_conditionFault_167 rfl ?_
                            refine s_iconst C dX10_conditionFault_168 (by decide) (fun z2112 tz2112 => ?_)
                            refine s_icmp_le (tgt := 184) C dX10_conditionFault_169 (by decide) (fun q2113 => ?_) (fun q2113 => ?_)
                            · refine s_iload_n C dX10_conditionFault_184 rfl ?_
                              refine s_bipush C dX10_conditionFault_185 (by decide) (fun z2114 tz2114 => ?_)
                              refine s_icmp_ne (tgt := 228) C dX10_conditionFault_187 (by decide) (fun q2115 => ?_) (fun q2115 => ?_)
                              · refine s_iload_n C dX10_conditionFault_228 rfl ?_
                                exact s_iret C X dX10_conditionFault_229 ⟨(Fr.tr Fr.rf (Fr.mo kF (by decide) (by decide))), by omega, by omega, fun q => by omega⟩
                              · refine s_iload_n C dX10_conditionFault_190 rfl ?_
                                refine s_iconst C dX10_conditionFault_191 (by decide) (fun z2116 tz2116 => ?_)
                                refine s_icmp_le (tgt := 228) C dX10_conditionFault_192 (by decide) (fun q2117 => ?_) (fun q2117 => ?_)
                                · refine s_iload_n C dX10_conditionFault_228 rfl ?_
                                  exact s_iret C X dX10_conditionFault_229 ⟨(Fr.tr Fr.rf (Fr.mo kF (by decide) (by decide))), by omega, by omega, fun q => by omega⟩
                                · refine s_aload_n C dX10_conditionFault_195 rfl ?_
                                  refine s_callVI (st := []) C (c_X10_isOpen l ad τ o hd ho (by omega)) cv_X10_269 y71 rfl rfl rfl ⟨by decide, by decide⟩ (Nat.le_of_ble_eq_true rfl) dX10_conditionFault_196 ?_
                                  intro r2118 τ2119 h2120
                                  obtain ⟨eh2120, h2120⟩ := h2120; replace eh2120 := eh2120.symm; subst eh2120
                                  have mh2120 := h2120.2
                                  refine s_if_eq (tgt := 228) C dX10_conditionFault_199 (by decide) (fun q2121 => ?_) (fun q2121 => ?_)
                                  · refine s_iload_n C dX10_conditionFault_228 rfl ?_
                                    exact s_iret C X dX10_conditionFault_229 ⟨(Fr.tr Fr.rf (Fr.mo kF (by decide) (by decide))), by omega, by omega, fun q => by omega⟩
                                  · refine s_aload_n C dX10_conditionFault_202 rfl ?_
                                    refine s_callVV (st := []) C (c_X10_testEnds l ad τ o hd ho (by omega)) cv_X10_266 y71 rfl rfl rfl ⟨by decide, by decide⟩ (Nat.le_of_ble_eq_true rfl) dX10_conditionFault_203 ?_
                                    intro τ2123 h2124
                                    have dτ2123 : Int32.toInt (τ2123.1 71 49) = (te o).length := h2124.2
                                    have pτ2123 : Op (τ2123.1 109) (te o) := by rw [h2124.1.a 109 (by decide) (by decide)]; exact Op_te o ho
                                    have qτ2123 := te_len o
                                    obtain ⟨r6, hr6⟩ := te_hd (mh2120.mp (by omega))
                                    have hl6 : 1 ≤ (te o).length := by rw [hr6]; simp
                                    refine s_aload_n C dX10_conditionFault_206 rfl ?_
                                    refine s_dup C dX10_conditionFault_207 rfl ?_
                                    refine s_get (k := 49) (x := (τ2123.1 71 49)) C y71 fw_X10_260 rfl rfl dX10_conditionFault_208 ?_
                                    refine s_iconst C dX10_conditionFault_211 (by decide) (fun z2125 tz2125 => ?_)
                                    refine s_isub C dX10_conditionFault_212 (by omega) (fun z2126 tz2126 => ?_)
                                    refine s_put (k := 49) C y71 fw_X10_260 fp_9_49 rfl dX10_conditionFault_213 ?_
                                    refine s_aload_n C dX10_conditionFault_216 rfl ?_
                                    refine s_callVV (st := []) C (c_X10_testEnds l ad (sV τ2123 71 49 z2126) (te o).tail (by show Int32.toInt z2126 = _; rw [List.length_tail]; omega) (Op_tail _ pτ2123) (by rw [List.length_tail]; omega)) cv_X10_266 y71 rfl rfl rfl ⟨by decide, by decide⟩ (Nat.le_of_ble_eq_true rfl) dX10_conditionFault_217 ?_
                                    intro τ2128 h2129
                                    have dτ2128 : Int32.toInt (τ2128.1 71 49) = (te (te o).tail).length := h2129.2
                                    have pτ2128 : Op (τ2128.1 109) (te (te o).tail) := by rw [h2129.1.a 109 (by decide) (by decide)]; exact Op_te _ (Op_tail _ pτ2123)
                                    have qτ2128 := te_len (te o).tail
                                    have qqτ2128 : (te o).tail.length = (te o).length - 1 := List.length_tail
                                    skip
                                    refine s_iconst C dX10_conditionFault_220 (by decide) (fun z2130 tz2130 => ?_)
                                    refine s_istore_n C dX10_conditionFault_221 (by decide) (Nat.le_of_ble_eq_true rfl) rfl ?_
                                    show WP E ad 222 [some (.ref (ad 71)), some (.int z2130), some (.int z), some (.int (τ.1 86 z.toNatClampNeg))] [] τ2128
                                    refine s_iinc C dX10_conditionFault_222 rfl (by decide) rfl (by decide) (by omega) (fun z2131 tz2131 => ?_)
                                    show WP E ad 225 [some (.ref (ad 71)), some (.int z2130), some (.int z2131), some (.int (τ.1 86 z.toNatClampNeg))] [] τ2128
                                    refine s_goto (tgt := 230) C dX10_conditionFault_225 (by decide) ?_
                                    refine s_iload_n C dX10_conditionFault_230 rfl ?_
                                    refine s_if_ge (tgt := 238) C dX10_conditionFault_231 (by decide) (fun q2132 => ?_) (fun q2132 => ?_)
                                    · refine s_goto (tgt := 9) C dX10_conditionFault_238 (by decide) ?_
                                      refine wp_le (lv' := [some (.ref (ad 71)), some (.int z2130), some (.int z2131), none]) ⟨rfl, ⟨rfl, ⟨rfl, trivial⟩⟩⟩ ?_
                                      have ek1 : z2131.toInt.toNat = z.toInt.toNat + 1 := by omega
                                      exact ih τ2128 (te (te o).tail) z2130 z2131 (Fr.tr (Fr.sV (Fr.tr (Fr.tr Fr.rf (Fr.mo kF (by decide) (by decide))) (Fr.mo h2124.1 (by decide) (by decide))) (Or.inr (by decide))) (Fr.mo h2129.1 (by decide) (by decide))) dτ2128 pτ2128 (by omega) (by omega) (by omega) (fun ⟨f, hf⟩ => hac ⟨f + 1, Or.inr ⟨by omega, Or.inr (Or.inr (Or.inr (Or.inr (Or.inr ⟨by omega, by omega, mh2120.mp (by omega), (by rw [ek1, show z2130.toInt.toNat = 3 by omega] at hf; exact hf)⟩))))⟩⟩) (by omega)
                                    · refine s_iconst C dX10_conditionFault_234 (by decide) (fun z2133 tz2133 => ?_)
                                      refine s_iload_n C dX10_conditionFault_235 rfl ?_
                                      refine s_isub C dX10_conditionFault_236 (by omega) (fun z2134 tz2134 => ?_)
                                      exact s_iret C X dX10_conditionFault_237 ⟨(Fr.tr (Fr.sV (Fr.tr (Fr.tr Fr.rf (Fr.mo kF (by decide) (by decide))) (Fr.mo h2124.1 (by decide) (by decide))) (Or.inr (by decide))) (Fr.mo h2129.1 (by decide) (by decide))), by omega, by omega, fun q => by omega⟩
                            · refine s_aload_n C dX10_conditionFault_172 rfl ?_
                              refine s_callVV (st := []) C (c_X10_testEnds l ad τ o hd ho (by omega)) cv_X10_266 y71 rfl rfl rfl ⟨by decide, by decide⟩ (Nat.le_of_ble_eq_true rfl) dX10_conditionFault_173 ?_
                              intro τ2136 h2137
                              have dτ2136 : Int32.toInt (τ2136.1 71 49) = (te o).length := h2137.2
                              have pτ2136 : Op (τ2136.1 109) (te o) := by rw [h2137.1.a 109 (by decide) (by decide)]; exact Op_te o ho
                              have qτ2136 := te_len o
                              skip
                              refine s_iconst C dX10_conditionFault_176 (by decide) (fun z2138 tz2138 => ?_)
                              refine s_istore_n C dX10_conditionFault_177 (by decide) (Nat.le_of_ble_eq_true rfl) rfl ?_
                              show WP E ad 178 [some (.ref (ad 71)), some (.int z2138), some (.int z), some (.int (τ.1 86 z.toNatClampNeg))] [] τ2136
                              refine s_iinc C dX10_conditionFault_178 rfl (by decide) rfl (by decide) (by omega) (fun z2139 tz2139 => ?_)
                              show WP E ad 181 [some (.ref (ad 71)), some (.int z2138), some (.int z2139), some (.int (τ.1 86 z.toNatClampNeg))] [] τ2136
                              refine s_goto (tgt := 230) C dX10_conditionFault_181 (by decide) ?_
                              refine s_iload_n C dX10_conditionFault_230 rfl ?_
                              refine s_if_ge (tgt := 238) C dX10_conditionFault_231 (by decide) (fun q2140 => ?_) (fun q2140 => ?_)
                              · refine s_goto (tgt := 9) C dX10_conditionFault_238 (by decide) ?_
                                refine wp_le (lv' := [some (.ref (ad 71)), some (.int z2138), some (.int z2139), none]) ⟨rfl, ⟨rfl, ⟨rfl, trivial⟩⟩⟩ ?_
                                have ek1 : z2139.toInt.toNat = z.toInt.toNat + 1 := by omega
                                exact ih τ2136 (te o) z2138 z2139 (Fr.tr (Fr.tr Fr.rf (Fr.mo kF (by decide) (by decide))) (Fr.mo h2137.1 (by decide) (by decide))) dτ2136 pτ2136 (by omega) (by omega) (by omega) (fun ⟨f, hf⟩ => hac ⟨f + 1, Or.inr ⟨by omega, Or.inr (Or.inr (Or.inr (Or.inr (Or.inl ⟨by omega, by omega, (by rw [ek1, show z2138.toInt.toNat = 0 by omega] at hf; exact hf)⟩))))⟩⟩) (by omega)
                              · refine s_iconst C dX10_conditionFault_234 (by decide) (fun z2141 tz2141 => ?_)
                                refine s_iload_n C dX10_conditionFault_235 rfl ?_
                                refine s_isub C dX10_conditionFault_236 (by omega) (fun z2142 tz2142 => ?_)
                                exact s_iret C X dX10_conditionFault_237 ⟨(Fr.tr (Fr.tr Fr.rf (Fr.mo kF (by decide) (by decide))) (Fr.mo h2137.1 (by decide) (by decide))), by omega, by omega, fun q => by omega⟩
                          · refine s_iload_n C dX10_conditionFault_161 rfl ?_
                            refine s_bipush C dX10_conditionFault_162 (by decide) (fun z2143 tz2143 => ?_)
                            refine s_icmp_ne (tgt := 184) C dX10_conditionFault_164 (by decide) (fun q2144 => ?_) (fun q2144 => ?_)
                            · refine s_iload_n C dX10_conditionFault_184 rfl ?_
                              refine s_bipush C dX10_conditionFault_185 (by decide) (fun z2145 tz2145 => ?_)
                              refine s_icmp_ne (tgt := 228) C dX10_conditionFault_187 (by decide) (fun q2146 => ?_) (fun q2146 => ?_)
                              · refine s_iload_n C dX10_conditionFault_228 rfl ?_
                                exact s_iret C X dX10_conditionFault_229 ⟨(Fr.tr Fr.rf (Fr.mo kF (by decide) (by decide))), by omega, by omega, fun q => by omega⟩
                              · refine s_iload_n C dX10_conditionFault_190 rfl ?_
                                refine s_iconst C dX10_conditionFault_191 (by decide) (fun z2147 tz2147 => ?_)
                                refine s_icmp_le (tgt := 228) C dX10_conditionFault_192 (by decide) (fun q2148 => ?_) (fun q2148 => ?_)
                                · refine s_iload_n C dX10_conditionFault_228 rfl ?_
                                  exact s_iret C X dX10_conditionFault_229 ⟨(Fr.tr Fr.rf (Fr.mo kF (by decide) (by decide))), by omega, by omega, fun q => by omega⟩
                                · refine s_aload_n C dX10_conditionFault_195 rfl ?_
                                  refine s_callVI (st := []) C (c_X10_isOpen l ad τ o hd ho (by omega)) cv_X10_269 y71 rfl rfl rfl ⟨by decide, by decide⟩ (Nat.le_of_ble_eq_true rfl) dX10_conditionFault_196 ?_
                                  intro r2149 τ2150 h2151
                                  obtain ⟨eh2151, h2151⟩ := h2151; replace eh2151 := eh2151.symm; subst eh2151
                                  have mh2151 := h2151.2
                                  refine s_if_eq (tgt := 228) C dX10_conditionFault_199 (by decide) (fun q2152 => ?_) (fun q2152 => ?_)
                                  · refine s_iload_n C dX10_conditionFault_228 rfl ?_
                                    exact s_iret C X dX10_conditionFault_229 ⟨(Fr.tr Fr.rf (Fr.mo kF (by decide) (by decide))), by omega, by omega, fun q => by omega⟩
                                  · refine s_aload_n C dX10_conditionFault_202 rfl ?_
                                    refine s_callVV (st := []) C (c_X10_testEnds l ad τ o hd ho (by omega)) cv_X10_266 y71 rfl rfl rfl ⟨by decide, by decide⟩ (Nat.le_of_ble_eq_true rfl) dX10_conditionFault_203 ?_
                                    intro τ2154 h2155
                                    have dτ2154 : Int32.toInt (τ2154.1 71 49) = (te o).length := h2155.2
                                    have pτ2154 : Op (τ2154.1 109) (te o) := by rw [h2155.1.a 109 (by decide) (by decide)]; exact Op_te o ho
                                    have qτ2154 := te_len o
                                    obtain ⟨r6, hr6⟩ := te_hd (mh2151.mp (by omega))
                                    have hl6 : 1 ≤ (te o).length := by rw [hr6]; simp
                                    refine s_aload_n C dX10_conditionFault_206 rfl ?_
                                    refine s_dup C dX10_conditionFault_207 rfl ?_
                                    refine s_get (k := 49) (x := (τ2154.1 71 49)) C y71 fw_X10_260 rfl rfl dX10_conditionFault_208 ?_
                                    refine s_iconst C dX10_conditionFault_211 (by decide) (fun z2156 tz2156 => ?_)
                                    refine s_isub C dX10_conditionFault_212 (by omega) (fun z2157 tz2157 => ?_)
                                    refine s_put (k := 49) C y71 fw_X10_260 fp_9_49 rfl dX10_conditionFault_213 ?_
                                    refine s_aload_n C dX10_conditionFault_216 rfl ?_
                                    refine s_callVV (st := []) C (c_X10_testEnds l ad (sV τ2154 71 49 z2157) (te o).tail (by show Int32.toInt z2157 = _; rw [List.length_tail]; omega) (Op_tail _ pτ2154) (by rw [List.length_tail]; omega)) cv_X10_266 y71 rfl rfl rfl ⟨by decide, by decide⟩ (Nat.le_of_ble_eq_true rfl) dX10_conditionFault_217 ?_
                                    intro τ2159 h2160
                                    have dτ2159 : Int32.toInt (τ2159.1 71 49) = (te (te o).tail).length := h2160.2
                                    have pτ2159 : Op (τ2159.1 109) (te (te o).tail) := by rw [h2160.1.a 109 (by decide) (by decide)]; exact Op_te _ (Op_tail _ pτ2154)
                                    have qτ2159 := te_len (te o).tail
                                    have qqτ2159 : (te o).tail.length = (te o).length - 1 := List.length_tail
                                    skip
                                    refine s_iconst C dX10_conditionFault_220 (by decide) (fun z2161 tz2161 => ?_)
                                    refine s_istore_n C dX10_conditionFault_221 (by decide) (Nat.le_of_ble_eq_true rfl) rfl ?_
                                    show WP E ad 222 [some (.ref (ad 71)), some (.int z2161), some (.int z), some (.int (τ.1 86 z.toNatClampNeg))] [] τ2159
                                    refine s_iinc C dX10_conditionFault_222 rfl (by decide) rfl (by decide) (by omega) (fun z2162 tz2162 => ?_)
                                    show WP E ad 225 [some (.ref (ad 71)), some (.int z2161), some (.int z2162), some (.int (τ.1 86 z.toNatClampNeg))] [] τ2159
                                    refine s_goto (tgt := 230) C dX10_conditionFault_225 (by decide) ?_
                                    refine s_iload_n C dX10_conditionFault_230 rfl ?_
                                    refine s_if_ge (tgt := 238) C dX10_conditionFault_231 (by decide) (fun q2163 => ?_) (fun q2163 => ?_)
                                    · refine s_goto (tgt := 9) C dX10_conditionFault_238 (by decide) ?_
                                      refine wp_le (lv' := [some (.ref (ad 71)), some (.int z2161), some (.int z2162), none]) ⟨rfl, ⟨rfl, ⟨rfl, trivial⟩⟩⟩ ?_
                                      have ek1 : z2162.toInt.toNat = z.toInt.toNat + 1 := by omega
                                      exact ih τ2159 (te (te o).tail) z2161 z2162 (Fr.tr (Fr.sV (Fr.tr (Fr.tr Fr.rf (Fr.mo kF (by decide) (by decide))) (Fr.mo h2155.1 (by decide) (by decide))) (Or.inr (by decide))) (Fr.mo h2160.1 (by decide) (by decide))) dτ2159 pτ2159 (by omega) (by omega) (by omega) (fun ⟨f, hf⟩ => hac ⟨f + 1, Or.inr ⟨by omega, Or.inr (Or.inr (Or.inr (Or.inr (Or.inr ⟨by omega, by omega, mh2151.mp (by omega), (by rw [ek1, show z2161.toInt.toNat = 3 by omega] at hf; exact hf)⟩))))⟩⟩) (by omega)
                                    · refine s_iconst C dX10_conditionFault_234 (by decide) (fun z2164 tz2164 => ?_)
                                      refine s_iload_n C dX10_conditionFault_235 rfl ?_
                                      refine s_isub C dX10_conditionFault_236 (by omega) (fun z2165 tz2165 => ?_)
                                      exact s_iret C X dX10_conditionFault_237 ⟨(Fr.tr (Fr.sV (Fr.tr (Fr.tr Fr.rf (Fr.mo kF (by decide) (by decide))) (Fr.mo h2155.1 (by decide) (by decide))) (Or.inr (by decide))) (Fr.mo h2160.1 (by decide) (by decide))), by omega, by omega, fun q => by omega⟩
                            · refine s_iload_n C dX10_conditionFault_167 rfl ?_
                              refine s_iconst C dX10_conditionFault_168 (by decide) (fun z2166 tz2166 => ?_)
                              refine s_icmp_le (tgt := 184) C dX10_conditionFault_169 (by decide) (fun q2167 => ?_) (fun q2167 => ?_)
                              · refine s_iload_n C dX10_conditionFault_184 rfl ?_
                                refine s_bipush C dX10_conditionFault_185 (by decide) (fun z2168 tz2168 => ?_)
                                refine s_icmp_ne (tgt := 228) C dX10_conditionFault_187 (by decide) (fun q2169 => ?_) (fun q2169 => ?_)
                                · refine s_iload_n C dX10_conditionFault_228 rfl ?_
                                  exact s_iret C X dX10_conditionFault_229 ⟨(Fr.tr Fr.rf (Fr.mo kF (by decide) (by decide))), by omega, by omega, fun q => by omega⟩
                                · refine s_iload_n C dX10_conditionFault_190 rfl ?_
                                  refine s_iconst C dX10_conditionFault_191 (by decide) (fun z2170 tz2170 => ?_)
                                  refine s_icmp_le (tgt := 228) C dX10_conditionFault_192 (by decide) (fun q2171 => ?_) (fun q2171 => ?_)
                                  · refine s_iload_n C dX10_conditionFault_228 rfl ?_
                                    exact s_iret C X dX10_conditionFault_229 ⟨(Fr.tr Fr.rf (Fr.mo kF (by decide) (by decide))), by omega, by omega, fun q => by omega⟩
                                  · refine s_aload_n C dX10_conditionFault_195 rfl ?_
                                    refine s_callVI (st := []) C (c_X10_isOpen l ad τ o hd ho (by omega)) cv_X10_269 y71 rfl rfl rfl ⟨by decide, by decide⟩ (Nat.le_of_ble_eq_true rfl) dX10_conditionFault_196 ?_
                                    intro r2172 τ2173 h2174
                                    obtain ⟨eh2174, h2174⟩ := h2174; replace eh2174 := eh2174.symm; subst eh2174
                                    have mh2174 := h2174.2
                                    refine s_if_eq (tgt := 228) C dX10_conditionFault_199 (by decide) (fun q2175 => ?_) (fun q2175 => ?_)
                                    · refine s_iload_n C dX10_conditionFault_228 rfl ?_
                                      exact s_iret C X dX10_conditionFault_229 ⟨(Fr.tr Fr.rf (Fr.mo kF (by decide) (by decide))), by omega, by omega, fun q => by omega⟩
                                    · refine s_aload_n C dX10_conditionFault_202 rfl ?_
                                      refine s_callVV (st := []) C (c_X10_testEnds l ad τ o hd ho (by omega)) cv_X10_266 y71 rfl rfl rfl ⟨by decide, by decide⟩ (Nat.le_of_ble_eq_true rfl) dX10_conditionFault_203 ?_
                                      intro τ2177 h2178
                                      have dτ2177 : Int32.toInt (τ2177.1 71 49) = (te o).length := h2178.2
                                      have pτ2177 : Op (τ2177.1 109) (te o) := by rw [h2178.1.a 109 (by decide) (by decide)]; exact Op_te o ho
                                      have qτ2177 := te_len o
                                      obtain ⟨r6, hr6⟩ := te_hd (mh2174.mp (by omega))
                                      have hl6 : 1 ≤ (te o).length := by rw [hr6]; simp
                                      refine s_aload_n C dX10_conditionFault_206 rfl ?_
                                      refine s_dup C dX10_conditionFault_207 rfl ?_
                                      refine s_get (k := 49) (x := (τ2177.1 71 49)) C y71 fw_X10_260 rfl rfl dX10_conditionFault_208 ?_
                                      refine s_iconst C dX10_conditionFault_211 (by decide) (fun z2179 tz2179 => ?_)
                                      refine s_isub C dX10_conditionFault_212 (by omega) (fun z2180 tz2180 => ?_)
                                      refine s_put (k := 49) C y71 fw_X10_260 fp_9_49 rfl dX10_conditionFault_213 ?_
                                      refine s_aload_n C dX10_conditionFault_216 rfl ?_
                                      refine s_callVV (st := []) C (c_X10_testEnds l ad (sV τ2177 71 49 z2180) (te o).tail (by show Int32.toInt z2180 = _; rw [List.length_tail]; omega) (Op_tail _ pτ2177) (by rw [List.length_tail]; omega)) cv_X10_266 y71 rfl rfl rfl ⟨by decide, by decide⟩ (Nat.le_of_ble_eq_true rfl) dX10_conditionFault_217 ?_
                                      intro τ2182 h2183
                                      have dτ2182 : Int32.toInt (τ2182.1 71 49) = (te (te o).tail).length := h2183.2
                                      have pτ2182 : Op (τ2182.1 109) (te (te o).tail) := by rw [h2183.1.a 109 (by decide) (by decide)]; exact Op_te _ (Op_tail _ pτ2177)
                                      have qτ2182 := te_len (te o).tail
                                      have qqτ2182 : (te o).tail.length = (te o).length - 1 := List.length_tail
                                      skip
                                      refine s_iconst C dX10_conditionFault_220 (by decide) (fun z2184 tz2184 => ?_)
                                      refine s_istore_n C dX10_conditionFault_221 (by decide) (Nat.le_of_ble_eq_true rfl) rfl ?_
                                      show WP E ad 222 [some (.ref (ad 71)), some (.int z2184), some (.int z), some (.int (τ.1 86 z.toNatClampNeg))] [] τ2182
                                      refine s_iinc C dX10_conditionFault_222 rfl (by decide) rfl (by decide) (by omega) (fun z2185 tz2185 => ?_)
                                      show WP E ad 225 [some (.ref (ad 71)), some (.int z2184), some (.int z2185), some (.int (τ.1 86 z.toNatClampNeg))] [] τ2182
                                      refine s_goto (tgt := 230) C dX10_conditionFault_225 (by decide) ?_
                                      refine s_iload_n C dX10_conditionFault_230 rfl ?_
                                      refine s_if_ge (tgt := 238) C dX10_conditionFault_231 (by decide) (fun q2186 => ?_) (fun q2186 => ?_)
                                      · refine s_goto (tgt := 9) C dX10_conditionFault_238 (by decide) ?_
                                        refine wp_le (lv' := [some (.ref (ad 71)), some (.int z2184), some (.int z2185), none]) ⟨rfl, ⟨rfl, ⟨rfl, trivial⟩⟩⟩ ?_
                                        have ek1 : z2185.toInt.toNat = z.toInt.toNat + 1 := by omega
                                        exact ih τ2182 (te (te o).tail) z2184 z2185 (Fr.tr (Fr.sV (Fr.tr (Fr.tr Fr.rf (Fr.mo kF (by decide) (by decide))) (Fr.mo h2178.1 (by decide) (by decide))) (Or.inr (by decide))) (Fr.mo h2183.1 (by decide) (by decide))) dτ2182 pτ2182 (by omega) (by omega) (by omega) (fun ⟨f, hf⟩ => hac ⟨f + 1, Or.inr ⟨by omega, Or.inr (Or.inr (Or.inr (Or.inr (Or.inr ⟨by omega, by omega, mh2174.mp (by omega), (by rw [ek1, show z2184.toInt.toNat = 3 by omega] at hf; exact hf)⟩))))⟩⟩) (by omega)
                                      · refine s_iconst C dX10_conditionFault_234 (by decide) (fun z2187 tz2187 => ?_)
                                        refine s_iload_n C dX10_conditionFault_235 rfl ?_
                                        refine s_isub C dX10_conditionFault_236 (by omega) (fun z2188 tz2188 => ?_)
                                        exact s_iret C X dX10_conditionFault_237 ⟨(Fr.tr (Fr.sV (Fr.tr (Fr.tr Fr.rf (Fr.mo kF (by decide) (by decide))) (Fr.mo h2178.1 (by decide) (by decide))) (Or.inr (by decide))) (Fr.mo h2183.1 (by decide) (by decide))), by omega, by omega, fun q => by omega⟩
                              · refine s_aload_n C dX10_conditionFault_172 rfl ?_
                                refine s_callVV (st := []) C (c_X10_testEnds l ad τ o hd ho (by omega)) cv_X10_266 y71 rfl rfl rfl ⟨by decide, by decide⟩ (Nat.le_of_ble_eq_true rfl) dX10_conditionFault_173 ?_
                                intro τ2190 h2191
                                have dτ2190 : Int32.toInt (τ2190.1 71 49) = (te o).length := h2191.2
                                have pτ2190 : Op (τ2190.1 109) (te o) := by rw [h2191.1.a 109 (by decide) (by decide)]; exact Op_te o ho
                                have qτ2190 := te_len o
                                skip
                                refine s_iconst C dX10_conditionFault_176 (by decide) (fun z2192 tz2192 => ?_)
                                refine s_istore_n C dX10_conditionFault_177 (by decide) (Nat.le_of_ble_eq_true rfl) rfl ?_
                                show WP E ad 178 [some (.ref (ad 71)), some (.int z2192), some (.int z), some (.int (τ.1 86 z.toNatClampNeg))] [] τ2190
                                refine s_iinc C dX10_conditionFault_178 rfl (by decide) rfl (by decide) (by omega) (fun z2193 tz2193 => ?_)
                                show WP E ad 181 [some (.ref (ad 71)), some (.int z2192), some (.int z2193), some (.int (τ.1 86 z.toNatClampNeg))] [] τ2190
                                refine s_goto (tgt := 230) C dX10_conditionFault_181 (by decide) ?_
                                refine s_iload_n C dX10_conditionFault_230 rfl ?_
                                refine s_if_ge (tgt := 238) C dX10_conditionFault_231 (by decide) (fun q2194 => ?_) (fun q2194 => ?_)
                                · refine s_goto (tgt := 9) C dX10_conditionFault_238 (by decide) ?_
                                  refine wp_le (lv' := [some (.ref (ad 71)), some (.int z2192), some (.int z2193), none]) ⟨rfl, ⟨rfl, ⟨rfl, trivial⟩⟩⟩ ?_
                                  have ek1 : z2193.toInt.toNat = z.toInt.toNat + 1 := by omega
                                  exact ih τ2190 (te o) z2192 z2193 (Fr.tr (Fr.tr Fr.rf (Fr.mo kF (by decide) (by decide))) (Fr.mo h2191.1 (by decide) (by decide))) dτ2190 pτ2190 (by omega) (by omega) (by omega) (fun ⟨f, hf⟩ => hac ⟨f + 1, Or.inr ⟨by omega, Or.inr (Or.inr (Or.inr (Or.inr (Or.inl ⟨by omega, by omega, (by rw [ek1, show z2192.toInt.toNat = 0 by omega] at hf; exact hf)⟩))))⟩⟩) (by omega)
                                · refine s_iconst C dX10_conditionFault_234 (by decide) (fun z2195 tz2195 => ?_)
                                  refine s_iload_n C dX10_conditionFault_235 rfl ?_
                                  refine s_isub C dX10_conditionFault_236 (by omega) (fun z2196 tz2196 => ?_)
                                  exact s_iret C X dX10_conditionFault_237 ⟨(Fr.tr (Fr.tr Fr.rf (Fr.mo kF (by decide) (by decide))) (Fr.mo h2191.1 (by decide) (by decide))), by omega, by omega, fun q => by omega⟩
                        · refine s_aload_n C dX10_conditionFault_142 rfl ?_
                          refine s_iload_n C dX10_conditionFault_143 rfl ?_
                          refine s_iconst C dX10_conditionFault_144 (by decide) (fun z2197 tz2197 => ?_)
                          refine s_iadd C dX10_conditionFault_145 (by omega) (fun z2198 tz2198 => ?_)
                          refine s_callVI (st := []) C (c_X10_behindUnit l ad τ z2198 (by omega) (by omega) (by omega)) cv_X10_263 y71 rfl rfl rfl ⟨by decide, by decide⟩ (Nat.le_of_ble_eq_true rfl) dX10_conditionFault_146 ?_
                          intro r2199 τ2200 h2201
                          obtain ⟨eh2201, h2201⟩ := h2201; replace eh2201 := eh2201.symm; subst eh2201
                          have uh2201 := h2201.2.2
                          rw [f0, f17, e86] at uh2201
                          have vh2201 : 0 ≤ Int32.toInt r2199 → Int32.toInt r2199 ≤ Int32.toInt (σ.1 71 17) := fun q => by have := un_le (uh2201 q).2; omega
                          skip
                          refine s_istore_n C dX10_conditionFault_149 (by decide) (Nat.le_of_ble_eq_true rfl) rfl ?_
                          show WP E ad 150 [some (.ref (ad 71)), some (.int y), some (.int r2199), some (.int (τ.1 86 z.toNatClampNeg))] [] τ
                          refine s_iconst C dX10_conditionFault_150 (by decide) (fun z2202 tz2202 => ?_)
                          refine s_istore_n C dX10_conditionFault_151 (by decide) (Nat.le_of_ble_eq_true rfl) rfl ?_
                          show WP E ad 152 [some (.ref (ad 71)), some (.int z2202), some (.int r2199), some (.int (τ.1 86 z.toNatClampNeg))] [] τ
                          refine s_goto (tgt := 230) C dX10_conditionFault_152 (by decide) ?_
                          refine s_iload_n C dX10_conditionFault_230 rfl ?_
                          refine s_if_ge (tgt := 238) C dX10_conditionFault_231 (by decide) (fun q2203 => ?_) (fun q2203 => ?_)
                          · refine s_goto (tgt := 9) C dX10_conditionFault_238 (by decide) ?_
                            refine wp_le (lv' := [some (.ref (ad 71)), some (.int z2202), some (.int r2199), none]) ⟨rfl, ⟨rfl, ⟨rfl, trivial⟩⟩⟩ ?_
                            have ez1 : z2198.toInt.toNat = z.toInt.toNat + 1 := by omega
                            rw [ez1] at uh2201
                            exact ih τ o z2202 r2199 (Fr.tr Fr.rf (Fr.mo kF (by decide) (by decide))) hd ho (by omega) (by omega) (by omega) (fun ⟨f, hf⟩ => hac ⟨f + 1, Or.inr ⟨by omega, Or.inr (Or.inr (Or.inr (Or.inl ⟨by omega, by omega, _, (uh2201 (by omega)).2, (by rw [show z2202.toInt.toNat = 2 by omega] at hf; exact hf)⟩)))⟩⟩) (by omega)
                          · refine s_iconst C dX10_conditionFault_234 (by decide) (fun z2204 tz2204 => ?_)
                            refine s_iload_n C dX10_conditionFault_235 rfl ?_
                            refine s_isub C dX10_conditionFault_236 (by omega) (fun z2205 tz2205 => ?_)
                            exact s_iret C X dX10_conditionFault_237 ⟨(Fr.tr Fr.rf (Fr.mo kF (by decide) (by decide))), by omega, by omega, fun q => by omega⟩
                      · refine s_iload_n C dX10_conditionFault_131 rfl ?_
                        refine s_bipush C dX10_conditionFault_132 (by decide) (fun z2206 tz2206 => ?_)
                        refine s_icmp_ne (tgt := 155) C dX10_conditionFault_134 (by decide) (fun q2207 => ?_) (fun q2207 => ?_)
                        · refine s_iload_n C dX10_conditionFault_155 rfl ?_
                          refine s_bipush C dX10_conditionFault_156 (by decide) (fun z2208 tz2208 => ?_)
                          refine s_icmp_eq (tgt := 167) C dX10_conditionFault_158 (by decide) (fun q2209 => ?_) (fun q2209 => ?_)
                          · refine s_iload_n C dX10_conditionFault_167 rfl ?_
                            refine s_iconst C dX10_conditionFault_168 (by decide) (fun z2210 tz2210 => ?_)
                            refine s_icmp_le (tgt := 184) C dX10_conditionFault_169 (by decide) (fun q2211 => ?_) (fun q2211 => ?_)
                            · refine s_iload_n C dX10_conditionFault_184 rfl ?_
                              refine s_bipush C dX10_conditionFault_185 (by decide) (fun z2212 tz2212 => ?_)
                              refine s_icmp_ne (tgt := 228) C dX10_conditionFault_187 (by decide) (fun q2213 => ?_) (fun q2213 => ?_)
                              · refine s_iload_n C dX10_conditionFault_228 rfl ?_
                                exact s_iret C X dX10_conditionFault_229 ⟨(Fr.tr Fr.rf (Fr.mo kF (by decide) (by decide))), by omega, by omega, fun q => by omega⟩
                              · refine s_iload_n C dX10_conditionFault_190 rfl ?_
                                refine s_iconst C dX10_conditionFault_191 (by decide) (fun z2214 tz2214 => ?_)
                                refine s_icmp_le (tgt := 228) C dX10_conditionFault_192 (by decide) (fun q2215 => ?_) (fun q2215 => ?_)
                                · refine s_iload_n C dX10_conditionFault_228 rfl ?_
                                  exact s_iret C X dX10_conditionFault_229 ⟨(Fr.tr Fr.rf (Fr.mo kF (by decide) (by decide))), by omega, by omega, fun q => by omega⟩
                                · refine s_aload_n C dX10_conditionFault_195 rfl ?_
                                  refine s_callVI (st := []) C (c_X10_isOpen l ad τ o hd ho (by omega)) cv_X10_269 y71 rfl rfl rfl ⟨by decide, by decide⟩ (Nat.le_of_ble_eq_true rfl) dX10_conditionFault_196 ?_
                                  intro r2216 τ2217 h2218
                                  obtain ⟨eh2218, h2218⟩ := h2218; replace eh2218 := eh2218.symm; subst eh2218
                                  have mh2218 := h2218.2
                                  refine s_if_eq (tgt := 228) C dX10_conditionFault_199 (by decide) (fun q2219 => ?_) (fun q2219 => ?_)
                                  · refine s_iload_n C dX10_conditionFault_228 rfl ?_
                                    exact s_iret C X dX10_conditionFault_229 ⟨(Fr.tr Fr.rf (Fr.mo kF (by decide) (by decide))), by omega, by omega, fun q => by omega⟩
                                  · refine s_aload_n C dX10_conditionFault_202 rfl ?_
                                    refine s_callVV (st := []) C (c_X10_testEnds l ad τ o hd ho (by omega)) cv_X10_266 y71 rfl rfl rfl ⟨by decide, by decide⟩ (Nat.le_of_ble_eq_true rfl) dX10_conditionFault_203 ?_
                                    intro τ2221 h2222
                                    have dτ2221 : Int32.toInt (τ2221.1 71 49) = (te o).length := h2222.2
                                    have pτ2221 : Op (τ2221.1 109) (te o) := by rw [h2222.1.a 109 (by decide) (by decide)]; exact Op_te o ho
                                    have qτ2221 := te_len o
                                    obtain ⟨r6, hr6⟩ := te_hd (mh2218.mp (by omega))
                                    have hl6 : 1 ≤ (te o).length := by rw [hr6]; simp
                                    refine s_aload_n C dX10_conditionFault_206 rfl ?_
                                    refine s_dup C dX10_conditionFault_207 rfl ?_
                                    refine s_get (k := 49) (x := (τ2221.1 71 49)) C y71 fw_X10_260 rfl rfl dX10_conditionFault_208 ?_
                                    refine s_iconst C dX10_conditionFault_211 (by decide) (fun z2223 tz2223 => ?_)
                                    refine s_isub C dX10_conditionFault_212 (by omega) (fun z2224 tz2224 => ?_)
                                    refine s_put (k := 49) C y71 fw_X10_260 fp_9_49 rfl dX10_conditionFault_213 ?_
                                    refine s_aload_n C dX10_conditionFault_216 rfl ?_
                                    refine s_callVV (st := []) C (c_X10_testEnds l ad (sV τ2221 71 49 z2224) (te o).tail (by show Int32.toInt z2224 = _; rw [List.length_tail]; omega) (Op_tail _ pτ2221) (by rw [List.length_tail]; omega)) cv_X10_266 y71 rfl rfl rfl ⟨by decide, by decide⟩ (Nat.le_of_ble_eq_true rfl) dX10_conditionFault_217 ?_
                                    intro τ2226 h2227
                                    have dτ2226 : Int32.toInt (τ2226.1 71 49) = (te (te o).tail).length := h2227.2
                                    have pτ2226 : Op (τ2226.1 109) (te (te o).tail) := by rw [h2227.1.a 109 (by decide) (by decide)]; exact Op_te _ (Op_tail _ pτ2221)
                                    have qτ2226 := te_len (te o).tail
                                    have qqτ2226 : (te o).tail.length = (te o).length - 1 := List.length_tail
                                    skip
                                    refine s_iconst C dX10_conditionFault_220 (by decide) (fun z2228 tz2228 => ?_)
                                    refine s_istore_n C dX10_conditionFault_221 (by decide) (Nat.le_of_ble_eq_true rfl) rfl ?_
                                    show WP E ad 222 [some (.ref (ad 71)), some (.int z2228), some (.int z), some (.int (τ.1 86 z.toNatClampNeg))] [] τ2226
                                    refine s_iinc C dX10_conditionFault_222 rfl (by decide) rfl (by decide) (by omega) (fun z2229 tz2229 => ?_)
                                    show WP E ad 225 [some (.ref (ad 71)), some (.int z2228), some (.int z2229), some (.int (τ.1 86 z.toNatClampNeg))] [] τ2226
                                    refine s_goto (tgt := 230) C dX10_conditionFault_225 (by decide) ?_
                                    refine s_iload_n C dX10_conditionFault_230 rfl ?_
                                    refine s_if_ge (tgt := 238) C dX10_conditionFault_231 (by decide) (fun q2230 => ?_) (fun q2230 => ?_)
                                    · refine s_goto (tgt := 9) C dX10_conditionFault_238 (by decide) ?_
                                      refine wp_le (lv' := [some (.ref (ad 71)), some (.int z2228), some (.int z2229), none]) ⟨rfl, ⟨rfl, ⟨rfl, trivial⟩⟩⟩ ?_
                                      have ek1 : z2229.toInt.toNat = z.toInt.toNat + 1 := by omega
                                      exact ih τ2226 (te (te o).tail) z2228 z2229 (Fr.tr (Fr.sV (Fr.tr (Fr.tr Fr.rf (Fr.mo kF (by decide) (by decide))) (Fr.mo h2222.1 (by decide) (by decide))) (Or.inr (by decide))) (Fr.mo h2227.1 (by decide) (by decide))) dτ2226 pτ2226 (by omega) (by omega) (by omega) (fun ⟨f, hf⟩ => hac ⟨f + 1, Or.inr ⟨by omega, Or.inr (Or.inr (Or.inr (Or.inr (Or.inr ⟨by omega, by omega, mh2218.mp (by omega), (by rw [ek1, show z2228.toInt.toNat = 3 by omega] at hf; exact hf)⟩))))⟩⟩) (by omega)
                                    · refine s_iconst C dX10_conditionFault_234 (by decide) (fun z2231 tz2231 => ?_)
                                      refine s_iload_n C dX10_conditionFault_235 rfl ?_
                                      refine s_isub C dX10_conditionFault_236 (by omega) (fun z2232 tz2232 => ?_)
                                      exact s_iret C X dX10_conditionFault_237 ⟨(Fr.tr (Fr.sV (Fr.tr (Fr.tr Fr.rf (Fr.mo kF (by decide) (by decide))) (Fr.mo h2222.1 (by decide) (by decide))) (Or.inr (by decide))) (Fr.mo h2227.1 (by decide) (by decide))), by omega, by omega, fun q => by omega⟩
                            · refine s_aload_n C dX10_conditionFault_172 rfl ?_
                              refine s_callVV (st := []) C (c_X10_testEnds l ad τ o hd ho (by omega)) cv_X10_266 y71 rfl rfl rfl ⟨by decide, by decide⟩ (Nat.le_of_ble_eq_true rfl) dX10_conditionFault_173 ?_
                              intro τ2234 h2235
                              have dτ2234 : Int32.toInt (τ2234.1 71 49) = (te o).length := h2235.2
                              have pτ2234 : Op (τ2234.1 109) (te o) := by rw [h2235.1.a 109 (by decide) (by decide)]; exact Op_te o ho
                              have qτ2234 := te_len o
                              skip
                              refine s_iconst C dX10_conditionFault_176 (by decide) (fun z2236 tz2236 => ?_)
                              refine s_istore_n C dX10_conditionFault_177 (by decide) (Nat.le_of_ble_eq_true rfl) rfl ?_
                              show WP E ad 178 [some (.ref (ad 71)), some (.int z2236), some (.int z), some (.int (τ.1 86 z.toNatClampNeg))] [] τ2234
                              refine s_iinc C dX10_conditionFault_178 rfl (by decide) rfl (by decide) (by omega) (fun z2237 tz2237 => ?_)
                              show WP E ad 181 [some (.ref (ad 71)), some (.int z2236), some (.int z2237), some (.int (τ.1 86 z.toNatClampNeg))] [] τ2234
                              refine s_goto (tgt := 230) C dX10_conditionFault_181 (by decide) ?_
                              refine s_iload_n C dX10_conditionFault_230 rfl ?_
                              refine s_if_ge (tgt := 238) C dX10_conditionFault_231 (by decide) (fun q2238 => ?_) (fun q2238 => ?_)
                              · refine s_goto (tgt := 9) C dX10_conditionFault_238 (by decide) ?_
                                refine wp_le (lv' := [some (.ref (ad 71)), some (.int z2236), some (.int z2237), none]) ⟨rfl, ⟨rfl, ⟨rfl, trivial⟩⟩⟩ ?_
                                have ek1 : z2237.toInt.toNat = z.toInt.toNat + 1 := by omega
                                exact ih τ2234 (te o) z2236 z2237 (Fr.tr (Fr.tr Fr.rf (Fr.mo kF (by decide) (by decide))) (Fr.mo h2235.1 (by decide) (by decide))) dτ2234 pτ2234 (by omega) (by omega) (by omega) (fun ⟨f, hf⟩ => hac ⟨f + 1, Or.inr ⟨by omega, Or.inr (Or.inr (Or.inr (Or.inr (Or.inl ⟨by omega, by omega, (by rw [ek1, show z2236.toInt.toNat = 0 by omega] at hf; exact hf)⟩))))⟩⟩) (by omega)
                              · refine s_iconst C dX10_conditionFault_234 (by decide) (fun z2239 tz2239 => ?_)
                                refine s_iload_n C dX10_conditionFault_235 rfl ?_
                                refine s_isub C dX10_conditionFault_236 (by omega) (fun z2240 tz2240 => ?_)
                                exact s_iret C X dX10_conditionFault_237 ⟨(Fr.tr (Fr.tr Fr.rf (Fr.mo kF (by decide) (by decide))) (Fr.mo h2235.1 (by decide) (by decide))), by omega, by omega, fun q => by omega⟩
                          · refine s_iload_n C dX10_conditionFault_161 rfl ?_
                            refine s_bipush C dX10_conditionFault_162 (by decide) (fun z2241 tz2241 => ?_)
                            refine s_icmp_ne (tgt := 184) C dX10_conditionFault_164 (by decide) (fun q2242 => ?_) (fun q2242 => ?_)
                            · refine s_iload_n C dX10_conditionFault_184 rfl ?_
                              refine s_bipush C dX10_conditionFault_185 (by decide) (fun z2243 tz2243 => ?_)
                              refine s_icmp_ne (tgt := 228) C dX10_conditionFault_187 (by decide) (fun q2244 => ?_) (fun q2244 => ?_)
                              · refine s_iload_n C dX10_conditionFault_228 rfl ?_
                                exact s_iret C X dX10_conditionFault_229 ⟨(Fr.tr Fr.rf (Fr.mo kF (by decide) (by decide))), by omega, by omega, fun q => by omega⟩
                              · refine s_iload_n C dX10_conditionFault_190 rfl ?_
                                refine s_iconst C dX10_conditionFault_191 (by decide) (fun z2245 tz2245 => ?_)
                                refine s_icmp_le (tgt := 228) C dX10_conditionFault_192 (by decide) (fun q2246 => ?_) (fun q2246 => ?_)
                                · refine s_iload_n C dX10_conditionFault_228 rfl ?_
                                  exact s_iret C X dX10_conditionFault_229 ⟨(Fr.tr Fr.rf (Fr.mo kF (by decide) (by decide))), by omega, by omega, fun q => by omega⟩
                                · refine s_aload_n C dX10_conditionFault_195 rfl ?_
                                  refine s_callVI (st := []) C (c_X10_isOpen l ad τ o hd ho (by omega)) cv_X10_269 y71 rfl rfl rfl ⟨by decide, by decide⟩ (Nat.le_of_ble_eq_true rfl) dX10_conditionFault_196 ?_
                                  intro r2247 τ2248 h2249
                                  obtain ⟨eh2249, h2249⟩ := h2249; replace eh2249 := eh2249.symm; subst eh2249
                                  have mh2249 := h2249.2
                                  refine s_if_eq (tgt := 228) C dX10_conditionFault_199 (by decide) (fun q2250 => ?_) (fun q2250 => ?_)
                                  · refine s_iload_n C dX10_conditionFault_228 rfl ?_
                                    exact s_iret C X dX10_conditionFault_229 ⟨(Fr.tr Fr.rf (Fr.mo kF (by decide) (by decide))), by omega, by omega, fun q => by omega⟩
                                  · refine s_aload_n C dX10_conditionFault_202 rfl ?_
                                    refine s_callVV (st := []) C (c_X10_testEnds l ad τ o hd ho (by omega)) cv_X10_266 y71 rfl rfl rfl ⟨by decide, by decide⟩ (Nat.le_of_ble_eq_true rfl) dX10_conditionFault_203 ?_
                                    intro τ2252 h2253
                                    have dτ2252 : Int32.toInt (τ2252.1 71 49) = (te o).length := h2253.2
                                    have pτ2252 : Op (τ2252.1 109) (te o) := by rw [h2253.1.a 109 (by decide) (by decide)]; exact Op_te o ho
                                    have qτ2252 := te_len o
                                    obtain ⟨r6, hr6⟩ := te_hd (mh2249.mp (by omega))
                                    have hl6 : 1 ≤ (te o).length := by rw [hr6]; simp
                                    refine s_aload_n C dX10_conditionFault_206 rfl ?_
                                    refine s_dup C dX10_conditionFault_207 rfl ?_
                                    refine s_get (k := 49) (x := (τ2252.1 71 49)) C y71 fw_X10_260 rfl rfl dX10_conditionFault_208 ?_
                                    refine s_iconst C dX10_conditionFault_211 (by decide) (fun z2254 tz2254 => ?_)
                                    refine s_isub C dX10_conditionFault_212 (by omega) (fun z2255 tz2255 => ?_)
                                    refine s_put (k := 49) C y71 fw_X10_260 fp_9_49 rfl dX10_conditionFault_213 ?_
                                    refine s_aload_n C dX10_conditionFault_216 rfl ?_
                                    refine s_callVV (st := []) C (c_X10_testEnds l ad (sV τ2252 71 49 z2255) (te o).tail (by show Int32.toInt z2255 = _; rw [List.length_tail]; omega) (Op_tail _ pτ2252) (by rw [List.length_tail]; omega)) cv_X10_266 y71 rfl rfl rfl ⟨by decide, by decide⟩ (Nat.le_of_ble_eq_true rfl) dX10_conditionFault_217 ?_
                                    intro τ2257 h2258
                                    have dτ2257 : Int32.toInt (τ2257.1 71 49) = (te (te o).tail).length := h2258.2
                                    have pτ2257 : Op (τ2257.1 109) (te (te o).tail) := by rw [h2258.1.a 109 (by decide) (by decide)]; exact Op_te _ (Op_tail _ pτ2252)
                                    have qτ2257 := te_len (te o).tail
                                    have qqτ2257 : (te o).tail.length = (te o).length - 1 := List.length_tail
                                    skip
                                    refine s_iconst C dX10_conditionFault_220 (by decide) (fun z2259 tz2259 => ?_)
                                    refine s_istore_n C dX10_conditionFault_221 (by decide) (Nat.le_of_ble_eq_true rfl) rfl ?_
                                    show WP E ad 222 [some (.ref (ad 71)), some (.int z2259), some (.int z), some (.int (τ.1 86 z.toNatClampNeg))] [] τ2257
                                    refine s_iinc C dX10_conditionFault_222 rfl (by decide) rfl (by decide) (by omega) (fun z2260 tz2260 => ?_)
                                    show WP E ad 225 [some (.ref (ad 71)), some (.int z2259), some (.int z2260), some (.int (τ.1 86 z.toNatClampNeg))] [] τ2257
                                    refine s_goto (tgt := 230) C dX10_conditionFault_225 (by decide) ?_
                                    refine s_iload_n C dX10_conditionFault_230 rfl ?_
                                    refine s_if_ge (tgt := 238) C dX10_conditionFault_231 (by decide) (fun q2261 => ?_) (fun q2261 => ?_)
                                    · refine s_goto (tgt := 9) C dX10_conditionFault_238 (by decide) ?_
                                      refine wp_le (lv' := [some (.ref (ad 71)), some (.int z2259), some (.int z2260), none]) ⟨rfl, ⟨rfl, ⟨rfl, trivial⟩⟩⟩ ?_
                                      have ek1 : z2260.toInt.toNat = z.toInt.toNat + 1 := by omega
                                      exact ih τ2257 (te (te o).tail) z2259 z2260 (Fr.tr (Fr.sV (Fr.tr (Fr.tr Fr.rf (Fr.mo kF (by decide) (by decide))) (Fr.mo h2253.1 (by decide) (by decide))) (Or.inr (by decide))) (Fr.mo h2258.1 (by decide) (by decide))) dτ2257 pτ2257 (by omega) (by omega) (by omega) (fun ⟨f, hf⟩ => hac ⟨f + 1, Or.inr ⟨by omega, Or.inr (Or.inr (Or.inr (Or.inr (Or.inr ⟨by omega, by omega, mh2249.mp (by omega), (by rw [ek1, show z2259.toInt.toNat = 3 by omega] at hf; exact hf)⟩))))⟩⟩) (by omega)
                                    · refine s_iconst C dX10_conditionFault_234 (by decide) (fun z2262 tz2262 => ?_)
                                      refine s_iload_n C dX10_conditionFault_235 rfl ?_
                                      refine s_isub C dX10_conditionFault_236 (by omega) (fun z2263 tz2263 => ?_)
                                      exact s_iret C X dX10_conditionFault_237 ⟨(Fr.tr (Fr.sV (Fr.tr (Fr.tr Fr.rf (Fr.mo kF (by decide) (by decide))) (Fr.mo h2253.1 (by decide) (by decide))) (Or.inr (by decide))) (Fr.mo h2258.1 (by decide) (by decide))), by omega, by omega, fun q => by omega⟩
                            · refine s_iload_n C dX10_conditionFault_167 rfl ?_
                              refine s_iconst C dX10_conditionFault_168 (by decide) (fun z2264 tz2264 => ?_)
                              refine s_icmp_le (tgt := 184) C dX10_conditionFault_169 (by decide) (fun q2265 => ?_) (fun q2265 => ?_)
                              · refine s_iload_n C dX10_conditionFault_184 rfl ?_
                                refine s_bipush C dX10_conditionFault_185 (by decide) (fun z2266 tz2266 => ?_)
                                refine s_icmp_ne (tgt := 228) C dX10_conditionFault_187 (by decide) (fun q2267 => ?_) (fun q2267 => ?_)
                                · refine s_iload_n C dX10_conditionFault_228 rfl ?_
                                  exact s_iret C X dX10_conditionFault_229 ⟨(Fr.tr Fr.rf (Fr.mo kF (by decide) (by decide))), by omega, by omega, fun q => by omega⟩
                                · refine s_iload_n C dX10_conditionFault_190 rfl ?_
                                  refine s_iconst C dX10_conditionFault_191 (by decide) (fun z2268 tz2268 => ?_)
                                  refine s_icmp_le (tgt := 228) C dX10_conditionFault_192 (by decide) (fun q2269 => ?_) (fun q2269 => ?_)
                                  · refine s_iload_n C dX10_conditionFault_228 rfl ?_
                                    exact s_iret C X dX10_conditionFault_229 ⟨(Fr.tr Fr.rf (Fr.mo kF (by decide) (by decide))), by omega, by omega, fun q => by omega⟩
                                  · refine s_aload_n C dX10_conditionFault_195 rfl ?_
                                    refine s_callVI (st := []) C (c_X10_isOpen l ad τ o hd ho (by omega)) cv_X10_269 y71 rfl rfl rfl ⟨by decide, by decide⟩ (Nat.le_of_ble_eq_true rfl) dX10_conditionFault_196 ?_
                                    intro r2270 τ2271 h2272
                                    obtain ⟨eh2272, h2272⟩ := h2272; replace eh2272 := eh2272.symm; subst eh2272
                                    have mh2272 := h2272.2
                                    refine s_if_eq (tgt := 228) C dX10_conditionFault_199 (by decide) (fun q2273 => ?_) (fun q2273 => ?_)
                                    · refine s_iload_n C dX10_conditionFault_228 rfl ?_
                                      exact s_iret C X dX10_conditionFault_229 ⟨(Fr.tr Fr.rf (Fr.mo kF (by decide) (by decide))), by omega, by omega, fun q => by omega⟩
                                    · refine s_aload_n C dX10_conditionFault_202 rfl ?_
                                      refine s_callVV (st := []) C (c_X10_testEnds l ad τ o hd ho (by omega)) cv_X10_266 y71 rfl rfl rfl ⟨by decide, by decide⟩ (Nat.le_of_ble_eq_true rfl) dX10_conditionFault_203 ?_
                                      intro τ2275 h2276
                                      have dτ2275 : Int32.toInt (τ2275.1 71 49) = (te o).length := h2276.2
                                      have pτ2275 : Op (τ2275.1 109) (te o) := by rw [h2276.1.a 109 (by decide) (by decide)]; exact Op_te o ho
                                      have qτ2275 := te_len o
                                      obtain ⟨r6, hr6⟩ := te_hd (mh2272.mp (by omega))
                                      have hl6 : 1 ≤ (te o).length := by rw [hr6]; simp
                                      refine s_aload_n C dX10_conditionFault_206 rfl ?_
                                      refine s_dup C dX10_conditionFault_207 rfl ?_
                                      refine s_get (k := 49) (x := (τ2275.1 71 49)) C y71 fw_X10_260 rfl rfl dX10_conditionFault_208 ?_
                                      refine s_iconst C dX10_conditionFault_211 (by decide) (fun z2277 tz2277 => ?_)
                                      refine s_isub C dX10_conditionFault_212 (by omega) (fun z2278 tz2278 => ?_)
                                      refine s_put (k := 49) C y71 fw_X10_260 fp_9_49 rfl dX10_conditionFault_213 ?_
                                      refine s_aload_n C dX10_conditionFault_216 rfl ?_
                                      refine s_callVV (st := []) C (c_X10_testEnds l ad (sV τ2275 71 49 z2278) (te o).tail (by show Int32.toInt z2278 = _; rw [List.length_tail]; omega) (Op_tail _ pτ2275) (by rw [List.length_tail]; omega)) cv_X10_266 y71 rfl rfl rfl ⟨by decide, by decide⟩ (Nat.le_of_ble_eq_true rfl) dX10_conditionFault_217 ?_
                                      intro τ2280 h2281
                                      have dτ2280 : Int32.toInt (τ2280.1 71 49) = (te (te o).tail).length := h2281.2
                                      have pτ2280 : Op (τ2280.1 109) (te (te o).tail) := by rw [h2281.1.a 109 (by decide) (by decide)]; exact Op_te _ (Op_tail _ pτ2275)
                                      have qτ2280 := te_len (te o).tail
                                      have qqτ2280 : (te o).tail.length = (te o).length - 1 := List.length_tail
                                      skip
                                      refine s_iconst C dX10_conditionFault_220 (by decide) (fun z2282 tz2282 => ?_)
                                      refine s_istore_n C dX10_conditionFault_221 (by decide) (Nat.le_of_ble_eq_true rfl) rfl ?_
                                      show WP E ad 222 [some (.ref (ad 71)), some (.int z2282), some (.int z), some (.int (τ.1 86 z.toNatClampNeg))] [] τ2280
                                      refine s_iinc C dX10_conditionFault_222 rfl (by decide) rfl (by decide) (by omega) (fun z2283 tz2283 => ?_)
                                      show WP E ad 225 [some (.ref (ad 71)), some (.int z2282), some (.int z2283), some (.int (τ.1 86 z.toNatClampNeg))] [] τ2280
                                      refine s_goto (tgt := 230) C dX10_conditionFault_225 (by decide) ?_
                                      refine s_iload_n C dX10_conditionFault_230 rfl ?_
                                      refine s_if_ge (tgt := 238) C dX10_conditionFault_231 (by decide) (fun q2284 => ?_) (fun q2284 => ?_)
                                      · refine s_goto (tgt := 9) C dX10_conditionFault_238 (by decide) ?_
                                        refine wp_le (lv' := [some (.ref (ad 71)), some (.int z2282), some (.int z2283), none]) ⟨rfl, ⟨rfl, ⟨rfl, trivial⟩⟩⟩ ?_
                                        have ek1 : z2283.toInt.toNat = z.toInt.toNat + 1 := by omega
                                        exact ih τ2280 (te (te o).tail) z2282 z2283 (Fr.tr (Fr.sV (Fr.tr (Fr.tr Fr.rf (Fr.mo kF (by decide) (by decide))) (Fr.mo h2276.1 (by decide) (by decide))) (Or.inr (by decide))) (Fr.mo h2281.1 (by decide) (by decide))) dτ2280 pτ2280 (by omega) (by omega) (by omega) (fun ⟨f, hf⟩ => hac ⟨f + 1, Or.inr ⟨by omega, Or.inr (Or.inr (Or.inr (Or.inr (Or.inr ⟨by omega, by omega, mh2272.mp (by omega), (by rw [ek1, show z2282.toInt.toNat = 3 by omega] at hf; exact hf)⟩))))⟩⟩) (by omega)
                                      · refine s_iconst C dX10_conditionFault_234 (by decide) (fun z2285 tz2285 => ?_)
                                        refine s_iload_n C dX10_conditionFault_235 rfl ?_
                                        refine s_isub C dX10_conditionFault_236 (by omega) (fun z2286 tz2286 => ?_)
                                        exact s_iret C X dX10_conditionFault_237 ⟨(Fr.tr (Fr.sV (Fr.tr (Fr.tr Fr.rf (Fr.mo kF (by decide) (by decide))) (Fr.mo h2276.1 (by decide) (by decide))) (Or.inr (by decide))) (Fr.mo h2281.1 (by decide) (by decide))), by omega, by omega, fun q => by omega⟩
                              · refine s_aload_n C dX10_conditionFault_172 rfl ?_
                                refine s_callVV (st := []) C (c_X10_testEnds l ad τ o hd ho (by omega)) cv_X10_266 y71 rfl rfl rfl ⟨by decide, by decide⟩ (Nat.le_of_ble_eq_true rfl) dX10_conditionFault_173 ?_
                                intro τ2288 h2289
                                have dτ2288 : Int32.toInt (τ2288.1 71 49) = (te o).length := h2289.2
                                have pτ2288 : Op (τ2288.1 109) (te o) := by rw [h2289.1.a 109 (by decide) (by decide)]; exact Op_te o ho
                                have qτ2288 := te_len o
                                skip
                                refine s_iconst C dX10_conditionFault_176 (by decide) (fun z2290 tz2290 => ?_)
                                refine s_istore_n C dX10_conditionFault_177 (by decide) (Nat.le_of_ble_eq_true rfl) rfl ?_
                                show WP E ad 178 [some (.ref (ad 71)), some (.int z2290), some (.int z), some (.int (τ.1 86 z.toNatClampNeg))] [] τ2288
                                refine s_iinc C dX10_conditionFault_178 rfl (by decide) rfl (by decide) (by omega) (fun z2291 tz2291 => ?_)
                                show WP E ad 181 [some (.ref (ad 71)), some (.int z2290), some (.int z2291), some (.int (τ.1 86 z.toNatClampNeg))] [] τ2288
                                refine s_goto (tgt := 230) C dX10_conditionFault_181 (by decide) ?_
                                refine s_iload_n C dX10_conditionFault_230 rfl ?_
                                refine s_if_ge (tgt := 238) C dX10_conditionFault_231 (by decide) (fun q2292 => ?_) (fun q2292 => ?_)
                                · refine s_goto (tgt := 9) C dX10_conditionFault_238 (by decide) ?_
                                  refine wp_le (lv' := [some (.ref (ad 71)), some (.int z2290), some (.int z2291), none]) ⟨rfl, ⟨rfl, ⟨rfl, trivial⟩⟩⟩ ?_
                                  have ek1 : z2291.toInt.toNat = z.toInt.toNat + 1 := by omega
                                  exact ih τ2288 (te o) z2290 z2291 (Fr.tr (Fr.tr Fr.rf (Fr.mo kF (by decide) (by decide))) (Fr.mo h2289.1 (by decide) (by decide))) dτ2288 pτ2288 (by omega) (by omega) (by omega) (fun ⟨f, hf⟩ => hac ⟨f + 1, Or.inr ⟨by omega, Or.inr (Or.inr (Or.inr (Or.inr (Or.inl ⟨by omega, by omega, (by rw [ek1, show z2290.toInt.toNat = 0 by omega] at hf; exact hf)⟩))))⟩⟩) (by omega)
                                · refine s_iconst C dX10_conditionFault_234 (by decide) (fun z2293 tz2293 => ?_)
                                  refine s_iload_n C dX10_conditionFault_235 rfl ?_
                                  refine s_isub C dX10_conditionFault_236 (by omega) (fun z2294 tz2294 => ?_)
                                  exact s_iret C X dX10_conditionFault_237 ⟨(Fr.tr (Fr.tr Fr.rf (Fr.mo kF (by decide) (by decide))) (Fr.mo h2289.1 (by decide) (by decide))), by omega, by omega, fun q => by omega⟩
                        · refine s_iload_n C dX10_conditionFault_137 rfl ?_
                          refine s_iconst C dX10_conditionFault_138 (by decide) (fun z2295 tz2295 => ?_)
                          refine s_icmp_ne (tgt := 155) C dX10_conditionFault_139 (by decide) (fun q2296 => ?_) (fun q2296 => ?_)
                          · refine s_iload_n C dX10_conditionFault_155 rfl ?_
                            refine s_bipush C dX10_conditionFault_156 (by decide) (fun z2297 tz2297 => ?_)
                            refine s_icmp_eq (tgt := 167) C dX10_conditionFault_158 (by decide) (fun q2298 => ?_) (fun q2298 => ?_)
                            · refine s_iload_n C dX10_conditionFault_167 rfl ?_
                              refine s_iconst C dX10_conditionFault_168 (by decide) (fun z2299 tz2299 => ?_)
                              refine s_icmp_le (tgt := 184) C dX10_conditionFault_169 (by decide) (fun q2300 => ?_) (fun q2300 => ?_)
                              · refine s_iload_n C dX10_conditionFault_184 rfl ?_
                                refine s_bipush C dX10_conditionFault_185 (by decide) (fun z2301 tz2301 => ?_)
                                refine s_icmp_ne (tgt := 228) C dX10_conditionFault_187 (by decide) (fun q2302 => ?_) (fun q2302 => ?_)
                                · refine s_iload_n C dX10_conditionFault_228 rfl ?_
                                  exact s_iret C X dX10_conditionFault_229 ⟨(Fr.tr Fr.rf (Fr.mo kF (by decide) (by decide))), by omega, by omega, fun q => by omega⟩
                                · refine s_iload_n C dX10_conditionFault_190 rfl ?_
                                  refine s_iconst C dX10_conditionFault_191 (by decide) (fun z2303 tz2303 => ?_)
                                  refine s_icmp_le (tgt := 228) C dX10_conditionFault_192 (by decide) (fun q2304 => ?_) (fun q2304 => ?_)
                                  · refine s_iload_n C dX10_conditionFault_228 rfl ?_
                                    exact s_iret C X dX10_conditionFault_229 ⟨(Fr.tr Fr.rf (Fr.mo kF (by decide) (by decide))), by omega, by omega, fun q => by omega⟩
                                  · refine s_aload_n C dX10_conditionFault_195 rfl ?_
                                    refine s_callVI (st := []) C (c_X10_isOpen l ad τ o hd ho (by omega)) cv_X10_269 y71 rfl rfl rfl ⟨by decide, by decide⟩ (Nat.le_of_ble_eq_true rfl) dX10_conditionFault_196 ?_
                                    intro r2305 τ2306 h2307
                                    obtain ⟨eh2307, h2307⟩ := h2307; replace eh2307 := eh2307.symm; subst eh2307
                                    have mh2307 := h2307.2
                                    refine s_if_eq (tgt := 228) C dX10_conditionFault_199 (by decide) (fun q2308 => ?_) (fun q2308 => ?_)
                                    · refine s_iload_n C dX10_conditionFault_228 rfl ?_
                                      exact s_iret C X dX10_conditionFault_229 ⟨(Fr.tr Fr.rf (Fr.mo kF (by decide) (by decide))), by omega, by omega, fun q => by omega⟩
                                    · refine s_aload_n C dX10_conditionFault_202 rfl ?_
                                      refine s_callVV (st := []) C (c_X10_testEnds l ad τ o hd ho (by omega)) cv_X10_266 y71 rfl rfl rfl ⟨by decide, by decide⟩ (Nat.le_of_ble_eq_true rfl) dX10_conditionFault_203 ?_
                                      intro τ2310 h2311
                                      have dτ2310 : Int32.toInt (τ2310.1 71 49) = (te o).length := h2311.2
                                      have pτ2310 : Op (τ2310.1 109) (te o) := by rw [h2311.1.a 109 (by decide) (by decide)]; exact Op_te o ho
                                      have qτ2310 := te_len o
                                      obtain ⟨r6, hr6⟩ := te_hd (mh2307.mp (by omega))
                                      have hl6 : 1 ≤ (te o).length := by rw [hr6]; simp
                                      refine s_aload_n C dX10_conditionFault_206 rfl ?_
                                      refine s_dup C dX10_conditionFault_207 rfl ?_
                                      refine s_get (k := 49) (x := (τ2310.1 71 49)) C y71 fw_X10_260 rfl rfl dX10_conditionFault_208 ?_
                                      refine s_iconst C dX10_conditionFault_211 (by decide) (fun z2312 tz2312 => ?_)
                                      refine s_isub C dX10_conditionFault_212 (by omega) (fun z2313 tz2313 => ?_)
                                      refine s_put (k := 49) C y71 fw_X10_260 fp_9_49 rfl dX10_conditionFault_213 ?_
                                      refine s_aload_n C dX10_conditionFault_216 rfl ?_
                                      refine s_callVV (st := []) C (c_X10_testEnds l ad (sV τ2310 71 49 z2313) (te o).tail (by show Int32.toInt z2313 = _; rw [List.length_tail]; omega) (Op_tail _ pτ2310) (by rw [List.length_tail]; omega)) cv_X10_266 y71 rfl rfl rfl ⟨by decide, by decide⟩ (Nat.le_of_ble_eq_true rfl) dX10_conditionFault_217 ?_
                                      intro τ2315 h2316
                                      have dτ2315 : Int32.toInt (τ2315.1 71 49) = (te (te o).tail).length := h2316.2
                                      have pτ2315 : Op (τ2315.1 109) (te (te o).tail) := by rw [h2316.1.a 109 (by decide) (by decide)]; exact Op_te _ (Op_tail _ pτ2310)
                                      have qτ2315 := te_len (te o).tail
                                      have qqτ2315 : (te o).tail.length = (te o).length - 1 := List.length_tail
                                      skip
                                      refine s_iconst C dX10_conditionFault_220 (by decide) (fun z2317 tz2317 => ?_)
                                      refine s_istore_n C dX10_conditionFault_221 (by decide) (Nat.le_of_ble_eq_true rfl) rfl ?_
                                      show WP E ad 222 [some (.ref (ad 71)), some (.int z2317), some (.int z), some (.int (τ.1 86 z.toNatClampNeg))] [] τ2315
                                      refine s_iinc C dX10_conditionFault_222 rfl (by decide) rfl (by decide) (by omega) (fun z2318 tz2318 => ?_)
                                      show WP E ad 225 [some (.ref (ad 71)), some (.int z2317), some (.int z2318), some (.int (τ.1 86 z.toNatClampNeg))] [] τ2315
                                      refine s_goto (tgt := 230) C dX10_conditionFault_225 (by decide) ?_
                                      refine s_iload_n C dX10_conditionFault_230 rfl ?_
                                      refine s_if_ge (tgt := 238) C dX10_conditionFault_231 (by decide) (fun q2319 => ?_) (fun q2319 => ?_)
                                      · refine s_goto (tgt := 9) C dX10_conditionFault_238 (by decide) ?_
                                        refine wp_le (lv' := [some (.ref (ad 71)), some (.int z2317), some (.int z2318), none]) ⟨rfl, ⟨rfl, ⟨rfl, trivial⟩⟩⟩ ?_
                                        have ek1 : z2318.toInt.toNat = z.toInt.toNat + 1 := by omega
                                        exact ih τ2315 (te (te o).tail) z2317 z2318 (Fr.tr (Fr.sV (Fr.tr (Fr.tr Fr.rf (Fr.mo kF (by decide) (by decide))) (Fr.mo h2311.1 (by decide) (by decide))) (Or.inr (by decide))) (Fr.mo h2316.1 (by decide) (by decide))) dτ2315 pτ2315 (by omega) (by omega) (by omega) (fun ⟨f, hf⟩ => hac ⟨f + 1, Or.inr ⟨by omega, Or.inr (Or.inr (Or.inr (Or.inr (Or.inr ⟨by omega, by omega, mh2307.mp (by omega), (by rw [ek1, show z2317.toInt.toNat = 3 by omega] at hf; exact hf)⟩))))⟩⟩) (by omega)
                                      · refine s_iconst C dX10_conditionFault_234 (by decide) (fun z2320 tz2320 => ?_)
                                        refine s_iload_n C dX10_conditionFault_235 rfl ?_
                                        refine s_isub C dX10_conditionFault_236 (by omega) (fun z2321 tz2321 => ?_)
                                        exact s_iret C X dX10_conditionFault_237 ⟨(Fr.tr (Fr.sV (Fr.tr (Fr.tr Fr.rf (Fr.mo kF (by decide) (by decide))) (Fr.mo h2311.1 (by decide) (by decide))) (Or.inr (by decide))) (Fr.mo h2316.1 (by decide) (by decide))), by omega, by omega, fun q => by omega⟩
                              · refine s_aload_n C dX10_conditionFault_172 rfl ?_
                                refine s_callVV (st := []) C (c_X10_testEnds l ad τ o hd ho (by omega)) cv_X10_266 y71 rfl rfl rfl ⟨by decide, by decide⟩ (Nat.le_of_ble_eq_true rfl) dX10_conditionFault_173 ?_
                                intro τ2323 h2324
                                have dτ2323 : Int32.toInt (τ2323.1 71 49) = (te o).length := h2324.2
                                have pτ2323 : Op (τ2323.1 109) (te o) := by rw [h2324.1.a 109 (by decide) (by decide)]; exact Op_te o ho
                                have qτ2323 := te_len o
                                skip
                                refine s_iconst C dX10_conditionFault_176 (by decide) (fun z2325 tz2325 => ?_)
                                refine s_istore_n C dX10_conditionFault_177 (by decide) (Nat.le_of_ble_eq_true rfl) rfl ?_
                                show WP E ad 178 [some (.ref (ad 71)), some (.int z2325), some (.int z), some (.int (τ.1 86 z.toNatClampNeg))] [] τ2323
                                refine s_iinc C dX10_conditionFault_178 rfl (by decide) rfl (by decide) (by omega) (fun z2326 tz2326 => ?_)
                                show WP E ad 181 [some (.ref (ad 71)), some (.int z2325), some (.int z2326), some (.int (τ.1 86 z.toNatClampNeg))] [] τ2323
                                refine s_goto (tgt := 230) C dX10_conditionFault_181 (by decide) ?_
                                refine s_iload_n C dX10_conditionFault_230 rfl ?_
                                refine s_if_ge (tgt := 238) C dX10_conditionFault_231 (by decide) (fun q2327 => ?_) (fun q2327 => ?_)
                                · refine s_goto (tgt := 9) C dX10_conditionFault_238 (by decide) ?_
                                  refine wp_le (lv' := [some (.ref (ad 71)), some (.int z2325), some (.int z2326), none]) ⟨rfl, ⟨rfl, ⟨rfl, trivial⟩⟩⟩ ?_
                                  have ek1 : z2326.toInt.toNat = z.toInt.toNat + 1 := by omega
                                  exact ih τ2323 (te o) z2325 z2326 (Fr.tr (Fr.tr Fr.rf (Fr.mo kF (by decide) (by decide))) (Fr.mo h2324.1 (by decide) (by decide))) dτ2323 pτ2323 (by omega) (by omega) (by omega) (fun ⟨f, hf⟩ => hac ⟨f + 1, Or.inr ⟨by omega, Or.inr (Or.inr (Or.inr (Or.inr (Or.inl ⟨by omega, by omega, (by rw [ek1, show z2325.toInt.toNat = 0 by omega] at hf; exact hf)⟩))))⟩⟩) (by omega)
                                · refine s_iconst C dX10_conditionFault_234 (by decide) (fun z2328 tz2328 => ?_)
                                  refine s_iload_n C dX10_conditionFault_235 rfl ?_
                                  refine s_isub C dX10_conditionFault_236 (by omega) (fun z2329 tz2329 => ?_)
                                  exact s_iret C X dX10_conditionFault_237 ⟨(Fr.tr (Fr.tr Fr.rf (Fr.mo kF (by decide) (by decide))) (Fr.mo h2324.1 (by decide) (by decide))), by omega, by omega, fun q => by omega⟩
                            · refine s_iload_n C dX10_conditionFault_161 rfl ?_
                              refine s_bipush C dX10_conditionFault_162 (by decide) (fun z2330 tz2330 => ?_)
                              refine s_icmp_ne (tgt := 184) C dX10_conditionFault_164 (by decide) (fun q2331 => ?_) (fun q2331 => ?_)
                              · refine s_iload_n C dX10_conditionFault_184 rfl ?_
                                refine s_bipush C dX10_conditionFault_185 (by decide) (fun z2332 tz2332 => ?_)
                                refine s_icmp_ne (tgt := 228) C dX10_conditionFault_187 (by decide) (fun q2333 => ?_) (fun q2333 => ?_)
                                · refine s_iload_n C dX10_conditionFault_228 rfl ?_
                                  exact s_iret C X dX10_conditionFault_229 ⟨(Fr.tr Fr.rf (Fr.mo kF (by decide) (by decide))), by omega, by omega, fun q => by omega⟩
                                · refine s_iload_n C dX10_conditionFault_190 rfl ?_
                                  refine s_iconst C dX10_conditionFault_191 (by decide) (fun z2334 tz2334 => ?_)
                                  refine s_icmp_le (tgt := 228) C dX10_conditionFault_192 (by decide) (fun q2335 => ?_) (fun q2335 => ?_)
                                  · refine s_iload_n C dX10_conditionFault_228 rfl ?_
                                    exact s_iret C X dX10_conditionFault_229 ⟨(Fr.tr Fr.rf (Fr.mo kF (by decide) (by decide))), by omega, by omega, fun q => by omega⟩
                                  · refine s_aload_n C dX10_conditionFault_195 rfl ?_
                                    refine s_callVI (st := []) C (c_X10_isOpen l ad τ o hd ho (by omega)) cv_X10_269 y71 rfl rfl rfl ⟨by decide, by decide⟩ (Nat.le_of_ble_eq_true rfl) dX10_conditionFault_196 ?_
                                    intro r2336 τ2337 h2338
                                    obtain ⟨eh2338, h2338⟩ := h2338; replace eh2338 := eh2338.symm; subst eh2338
                                    have mh2338 := h2338.2
                                    refine s_if_eq (tgt := 228) C dX10_conditionFault_199 (by decide) (fun q2339 => ?_) (fun q2339 => ?_)
                                    · refine s_iload_n C dX10_conditionFault_228 rfl ?_
                                      exact s_iret C X dX10_conditionFault_229 ⟨(Fr.tr Fr.rf (Fr.mo kF (by decide) (by decide))), by omega, by omega, fun q => by omega⟩
                                    · refine s_aload_n C dX10_conditionFault_202 rfl ?_
                                      refine s_callVV (st := []) C (c_X10_testEnds l ad τ o hd ho (by omega)) cv_X10_266 y71 rfl rfl rfl ⟨by decide, by decide⟩ (Nat.le_of_ble_eq_true rfl) dX10_conditionFault_203 ?_
                                      intro τ2341 h2342
                                      have dτ2341 : Int32.toInt (τ2341.1 71 49) = (te o).length := h2342.2
                                      have pτ2341 : Op (τ2341.1 109) (te o) := by rw [h2342.1.a 109 (by decide) (by decide)]; exact Op_te o ho
                                      have qτ2341 := te_len o
                                      obtain ⟨r6, hr6⟩ := te_hd (mh2338.mp (by omega))
                                      have hl6 : 1 ≤ (te o).length := by rw [hr6]; simp
                                      refine s_aload_n C dX10_conditionFault_206 rfl ?_
                                      refine s_dup C dX10_conditionFault_207 rfl ?_
                                      refine s_get (k := 49) (x := (τ2341.1 71 49)) C y71 fw_X10_260 rfl rfl dX10_conditionFault_208 ?_
                                      refine s_iconst C dX10_conditionFault_211 (by decide) (fun z2343 tz2343 => ?_)
                                      refine s_isub C dX10_conditionFault_212 (by omega) (fun z2344 tz2344 => ?_)
                                      refine s_put (k := 49) C y71 fw_X10_260 fp_9_49 rfl dX10_conditionFault_213 ?_
                                      refine s_aload_n C dX10_conditionFault_216 rfl ?_
                                      refine s_callVV (st := []) C (c_X10_testEnds l ad (sV τ2341 71 49 z2344) (te o).tail (by show Int32.toInt z2344 = _; rw [List.length_tail]; omega) (Op_tail _ pτ2341) (by rw [List.length_tail]; omega)) cv_X10_266 y71 rfl rfl rfl ⟨by decide, by decide⟩ (Nat.le_of_ble_eq_true rfl) dX10_conditionFault_217 ?_
                                      intro τ2346 h2347
                                      have dτ2346 : Int32.toInt (τ2346.1 71 49) = (te (te o).tail).length := h2347.2
                                      have pτ2346 : Op (τ2346.1 109) (te (te o).tail) := by rw [h2347.1.a 109 (by decide) (by decide)]; exact Op_te _ (Op_tail _ pτ2341)
                                      have qτ2346 := te_len (te o).tail
                                      have qqτ2346 : (te o).tail.length = (te o).length - 1 := List.length_tail
                                      skip
                                      refine s_iconst C dX10_conditionFault_220 (by decide) (fun z2348 tz2348 => ?_)
                                      refine s_istore_n C dX10_conditionFault_221 (by decide) (Nat.le_of_ble_eq_true rfl) rfl ?_
                                      show WP E ad 222 [some (.ref (ad 71)), some (.int z2348), some (.int z), some (.int (τ.1 86 z.toNatClampNeg))] [] τ2346
                                      refine s_iinc C dX10_conditionFault_222 rfl (by decide) rfl (by decide) (by omega) (fun z2349 tz2349 => ?_)
                                      show WP E ad 225 [some (.ref (ad 71)), some (.int z2348), some (.int z2349), some (.int (τ.1 86 z.toNatClampNeg))] [] τ2346
                                      refine s_goto (tgt := 230) C dX10_conditionFault_225 (by decide) ?_
                                      refine s_iload_n C dX10_conditionFault_230 rfl ?_
                                      refine s_if_ge (tgt := 238) C dX10_conditionFault_231 (by decide) (fun q2350 => ?_) (fun q2350 => ?_)
                                      · refine s_goto (tgt := 9) C dX10_conditionFault_238 (by decide) ?_
                                        refine wp_le (lv' := [some (.ref (ad 71)), some (.int z2348), some (.int z2349), none]) ⟨rfl, ⟨rfl, ⟨rfl, trivial⟩⟩⟩ ?_
                                        have ek1 : z2349.toInt.toNat = z.toInt.toNat + 1 := by omega
                                        exact ih τ2346 (te (te o).tail) z2348 z2349 (Fr.tr (Fr.sV (Fr.tr (Fr.tr Fr.rf (Fr.mo kF (by decide) (by decide))) (Fr.mo h2342.1 (by decide) (by decide))) (Or.inr (by decide))) (Fr.mo h2347.1 (by decide) (by decide))) dτ2346 pτ2346 (by omega) (by omega) (by omega) (fun ⟨f, hf⟩ => hac ⟨f + 1, Or.inr ⟨by omega, Or.inr (Or.inr (Or.inr (Or.inr (Or.inr ⟨by omega, by omega, mh2338.mp (by omega), (by rw [ek1, show z2348.toInt.toNat = 3 by omega] at hf; exact hf)⟩))))⟩⟩) (by omega)
                                      · refine s_iconst C dX10_conditionFault_234 (by decide) (fun z2351 tz2351 => ?_)
                                        refine s_iload_n C dX10_conditionFault_235 rfl ?_
                                        refine s_isub C dX10_conditionFault_236 (by omega) (fun z2352 tz2352 => ?_)
                                        exact s_iret C X dX10_conditionFault_237 ⟨(Fr.tr (Fr.sV (Fr.tr (Fr.tr Fr.rf (Fr.mo kF (by decide) (by decide))) (Fr.mo h2342.1 (by decide) (by decide))) (Or.inr (by decide))) (Fr.mo h2347.1 (by decide) (by decide))), by omega, by omega, fun q => by omega⟩
                              · refine s_iload_n C dX10_conditionFault_167 rfl ?_
                                refine s_iconst C dX10_conditionFault_168 (by decide) (fun z2353 tz2353 => ?_)
                                refine s_icmp_le (tgt := 184) C dX10_conditionFault_169 (by decide) (fun q2354 => ?_) (fun q2354 => ?_)
                                · refine s_iload_n C dX10_conditionFault_184 rfl ?_
                                  refine s_bipush C dX10_conditionFault_185 (by decide) (fun z2355 tz2355 => ?_)
                                  refine s_icmp_ne (tgt := 228) C dX10_conditionFault_187 (by decide) (fun q2356 => ?_) (fun q2356 => ?_)
                                  · refine s_iload_n C dX10_conditionFault_228 rfl ?_
                                    exact s_iret C X dX10_conditionFault_229 ⟨(Fr.tr Fr.rf (Fr.mo kF (by decide) (by decide))), by omega, by omega, fun q => by omega⟩
                                  · refine s_iload_n C dX10_conditionFault_190 rfl ?_
                                    refine s_iconst C dX10_conditionFault_191 (by decide) (fun z2357 tz2357 => ?_)
                                    refine s_icmp_le (tgt := 228) C dX10_conditionFault_192 (by decide) (fun q2358 => ?_) (fun q2358 => ?_)
                                    · refine s_iload_n C dX10_conditionFault_228 rfl ?_
                                      exact s_iret C X dX10_conditionFault_229 ⟨(Fr.tr Fr.rf (Fr.mo kF (by decide) (by decide))), by omega, by omega, fun q => by omega⟩
                                    · refine s_aload_n C dX10_conditionFault_195 rfl ?_
                                      refine s_callVI (st := []) C (c_X10_isOpen l ad τ o hd ho (by omega)) cv_X10_269 y71 rfl rfl rfl ⟨by decide, by decide⟩ (Nat.le_of_ble_eq_true rfl) dX10_conditionFault_196 ?_
                                      intro r2359 τ2360 h2361
                                      obtain ⟨eh2361, h2361⟩ := h2361; replace eh2361 := eh2361.symm; subst eh2361
                                      have mh2361 := h2361.2
                                      refine s_if_eq (tgt := 228) C dX10_conditionFault_199 (by decide) (fun q2362 => ?_) (fun q2362 => ?_)
                                      · refine s_iload_n C dX10_conditionFault_228 rfl ?_
                                        exact s_iret C X dX10_conditionFault_229 ⟨(Fr.tr Fr.rf (Fr.mo kF (by decide) (by decide))), by omega, by omega, fun q => by omega⟩
                                      · refine s_aload_n C dX10_conditionFault_202 rfl ?_
                                        refine s_callVV (st := []) C (c_X10_testEnds l ad τ o hd ho (by omega)) cv_X10_266 y71 rfl rfl rfl ⟨by decide, by decide⟩ (Nat.le_of_ble_eq_true rfl) dX10_conditionFault_203 ?_
                                        intro τ2364 h2365
                                        have dτ2364 : Int32.toInt (τ2364.1 71 49) = (te o).length := h2365.2
                                        have pτ2364 : Op (τ2364.1 109) (te o) := by rw [h2365.1.a 109 (by decide) (by decide)]; exact Op_te o ho
                                        have qτ2364 := te_len o
                                        obtain ⟨r6, hr6⟩ := te_hd (mh2361.mp (by omega))
                                        have hl6 : 1 ≤ (te o).length := by rw [hr6]; simp
                                        refine s_aload_n C dX10_conditionFault_206 rfl ?_
                                        refine s_dup C dX10_conditionFault_207 rfl ?_
                                        refine s_get (k := 49) (x := (τ2364.1 71 49)) C y71 fw_X10_260 rfl rfl dX10_conditionFault_208 ?_
                                        refine s_iconst C dX10_conditionFault_211 (by decide) (fun z2366 tz2366 => ?_)
                                        refine s_isub C dX10_conditionFault_212 (by omega) (fun z2367 tz2367 => ?_)
                                        refine s_put (k := 49) C y71 fw_X10_260 fp_9_49 rfl dX10_conditionFault_213 ?_
                                        refine s_aload_n C dX10_conditionFault_216 rfl ?_
                                        refine s_callVV (st := []) C (c_X10_testEnds l ad (sV τ2364 71 49 z2367) (te o).tail (by show Int32.toInt z2367 = _; rw [List.length_tail]; omega) (Op_tail _ pτ2364) (by rw [List.length_tail]; omega)) cv_X10_266 y71 rfl rfl rfl ⟨by decide, by decide⟩ (Nat.le_of_ble_eq_true rfl) dX10_conditionFault_217 ?_
                                        intro τ2369 h2370
                                        have dτ2369 : Int32.toInt (τ2369.1 71 49) = (te (te o).tail).length := h2370.2
                                        have pτ2369 : Op (τ2369.1 109) (te (te o).tail) := by rw [h2370.1.a 109 (by decide) (by decide)]; exact Op_te _ (Op_tail _ pτ2364)
                                        have qτ2369 := te_len (te o).tail
                                        have qqτ2369 : (te o).tail.length = (te o).length - 1 := List.length_tail
                                        skip
                                        refine s_iconst C dX10_conditionFault_220 (by decide) (fun z2371 tz2371 => ?_)
                                        refine s_istore_n C dX10_conditionFault_221 (by decide) (Nat.le_of_ble_eq_true rfl) rfl ?_
                                        show WP E ad 222 [some (.ref (ad 71)), some (.int z2371), some (.int z), some (.int (τ.1 86 z.toNatClampNeg))] [] τ2369
                                        refine s_iinc C dX10_conditionFault_222 rfl (by decide) rfl (by decide) (by omega) (fun z2372 tz2372 => ?_)
                                        show WP E ad 225 [some (.ref (ad 71)), some (.int z2371), some (.int z2372), some (.int (τ.1 86 z.toNatClampNeg))] [] τ2369
                                        refine s_goto (tgt := 230) C dX10_conditionFault_225 (by decide) ?_
                                        refine s_iload_n C dX10_conditionFault_230 rfl ?_
                                        refine s_if_ge (tgt := 238) C dX10_conditionFault_231 (by decide) (fun q2373 => ?_) (fun q2373 => ?_)
                                        · refine s_goto (tgt := 9) C dX10_conditionFault_238 (by decide) ?_
                                          refine wp_le (lv' := [some (.ref (ad 71)), some (.int z2371), some (.int z2372), none]) ⟨rfl, ⟨rfl, ⟨rfl, trivial⟩⟩⟩ ?_
                                          have ek1 : z2372.toInt.toNat = z.toInt.toNat + 1 := by omega
                                          exact ih τ2369 (te (te o).tail) z2371 z2372 (Fr.tr (Fr.sV (Fr.tr (Fr.tr Fr.rf (Fr.mo kF (by decide) (by decide))) (Fr.mo h2365.1 (by decide) (by decide))) (Or.inr (by decide))) (Fr.mo h2370.1 (by decide) (by decide))) dτ2369 pτ2369 (by omega) (by omega) (by omega) (fun ⟨f, hf⟩ => hac ⟨f + 1, Or.inr ⟨by omega, Or.inr (Or.inr (Or.inr (Or.inr (Or.inr ⟨by omega, by omega, mh2361.mp (by omega), (by rw [ek1, show z2371.toInt.toNat = 3 by omega] at hf; exact hf)⟩))))⟩⟩) (by omega)
                                        · refine s_iconst C dX10_conditionFault_234 (by decide) (fun z2374 tz2374 => ?_)
                                          refine s_iload_n C dX10_conditionFault_235 rfl ?_
                                          refine s_isub C dX10_conditionFault_236 (by omega) (fun z2375 tz2375 => ?_)
                                          exact s_iret C X dX10_conditionFault_237 ⟨(Fr.tr (Fr.sV (Fr.tr (Fr.tr Fr.rf (Fr.mo kF (by decide) (by decide))) (Fr.mo h2365.1 (by decide) (by decide))) (Or.inr (by decide))) (Fr.mo h2370.1 (by decide) (by decide))), by omega, by omega, fun q => by omega⟩
                                · refine s_aload_n C dX10_conditionFault_172 rfl ?_
                                  refine s_callVV (st := []) C (c_X10_testEnds l ad τ o hd ho (by omega)) cv_X10_266 y71 rfl rfl rfl ⟨by decide, by decide⟩ (Nat.le_of_ble_eq_true rfl) dX10_conditionFault_173 ?_
                                  intro τ2377 h2378
                                  have dτ2377 : Int32.toInt (τ2377.1 71 49) = (te o).length := h2378.2
                                  have pτ2377 : Op (τ2377.1 109) (te o) := by rw [h2378.1.a 109 (by decide) (by decide)]; exact Op_te o ho
                                  have qτ2377 := te_len o
                                  skip
                                  refine s_iconst C dX10_conditionFault_176 (by decide) (fun z2379 tz2379 => ?_)
                                  refine s_istore_n C dX10_conditionFault_177 (by decide) (Nat.le_of_ble_eq_true rfl) rfl ?_
                                  show WP E ad 178 [some (.ref (ad 71)), some (.int z2379), some (.int z), some (.int (τ.1 86 z.toNatClampNeg))] [] τ2377
                                  refine s_iinc C dX10_conditionFault_178 rfl (by decide) rfl (by decide) (by omega) (fun z2380 tz2380 => ?_)
                                  show WP E ad 181 [some (.ref (ad 71)), some (.int z2379), some (.int z2380), some (.int (τ.1 86 z.toNatClampNeg))] [] τ2377
                                  refine s_goto (tgt := 230) C dX10_conditionFault_181 (by decide) ?_
                                  refine s_iload_n C dX10_conditionFault_230 rfl ?_
                                  refine s_if_ge (tgt := 238) C dX10_conditionFault_231 (by decide) (fun q2381 => ?_) (fun q2381 => ?_)
                                  · refine s_goto (tgt := 9) C dX10_conditionFault_238 (by decide) ?_
                                    refine wp_le (lv' := [some (.ref (ad 71)), some (.int z2379), some (.int z2380), none]) ⟨rfl, ⟨rfl, ⟨rfl, trivial⟩⟩⟩ ?_
                                    have ek1 : z2380.toInt.toNat = z.toInt.toNat + 1 := by omega
                                    exact ih τ2377 (te o) z2379 z2380 (Fr.tr (Fr.tr Fr.rf (Fr.mo kF (by decide) (by decide))) (Fr.mo h2378.1 (by decide) (by decide))) dτ2377 pτ2377 (by omega) (by omega) (by omega) (fun ⟨f, hf⟩ => hac ⟨f + 1, Or.inr ⟨by omega, Or.inr (Or.inr (Or.inr (Or.inr (Or.inl ⟨by omega, by omega, (by rw [ek1, show z2379.toInt.toNat = 0 by omega] at hf; exact hf)⟩))))⟩⟩) (by omega)
                                  · refine s_iconst C dX10_conditionFault_234 (by decide) (fun z2382 tz2382 => ?_)
                                    refine s_iload_n C dX10_conditionFault_235 rfl ?_
                                    refine s_isub C dX10_conditionFault_236 (by omega) (fun z2383 tz2383 => ?_)
                                    exact s_iret C X dX10_conditionFault_237 ⟨(Fr.tr (Fr.tr Fr.rf (Fr.mo kF (by decide) (by decide))) (Fr.mo h2378.1 (by decide) (by decide))), by omega, by omega, fun q => by omega⟩
                          · refine s_aload_n C dX10_conditionFault_142 rfl ?_
                            refine s_iload_n C dX10_conditionFault_143 rfl ?_
                            refine s_iconst C dX10_conditionFault_144 (by decide) (fun z2384 tz2384 => ?_)
                            refine s_iadd C dX10_conditionFault_145 (by omega) (fun z2385 tz2385 => ?_)
                            refine s_callVI (st := []) C (c_X10_behindUnit l ad τ z2385 (by omega) (by omega) (by omega)) cv_X10_263 y71 rfl rfl rfl ⟨by decide, by decide⟩ (Nat.le_of_ble_eq_true rfl) dX10_conditionFault_146 ?_
                            intro r2386 τ2387 h2388
                            obtain ⟨eh2388, h2388⟩ := h2388; replace eh2388 := eh2388.symm; subst eh2388
                            have uh2388 := h2388.2.2
                            rw [f0, f17, e86] at uh2388
                            have vh2388 : 0 ≤ Int32.toInt r2386 → Int32.toInt r2386 ≤ Int32.toInt (σ.1 71 17) := fun q => by have := un_le (uh2388 q).2; omega
                            skip
                            refine s_istore_n C dX10_conditionFault_149 (by decide) (Nat.le_of_ble_eq_true rfl) rfl ?_
                            show WP E ad 150 [some (.ref (ad 71)), some (.int y), some (.int r2386), some (.int (τ.1 86 z.toNatClampNeg))] [] τ
                            refine s_iconst C dX10_conditionFault_150 (by decide) (fun z2389 tz2389 => ?_)
                            refine s_istore_n C dX10_conditionFault_151 (by decide) (Nat.le_of_ble_eq_true rfl) rfl ?_
                            show WP E ad 152 [some (.ref (ad 71)), some (.int z2389), some (.int r2386), some (.int (τ.1 86 z.toNatClampNeg))] [] τ
                            refine s_goto (tgt := 230) C dX10_conditionFault_152 (by decide) ?_
                            refine s_iload_n C dX10_conditionFault_230 rfl ?_
                            refine s_if_ge (tgt := 238) C dX10_conditionFault_231 (by decide) (fun q2390 => ?_) (fun q2390 => ?_)
                            · refine s_goto (tgt := 9) C dX10_conditionFault_238 (by decide) ?_
                              refine wp_le (lv' := [some (.ref (ad 71)), some (.int z2389), some (.int r2386), none]) ⟨rfl, ⟨rfl, ⟨rfl, trivial⟩⟩⟩ ?_
                              have ez1 : z2385.toInt.toNat = z.toInt.toNat + 1 := by omega
                              rw [ez1] at uh2388
                              exact ih τ o z2389 r2386 (Fr.tr Fr.rf (Fr.mo kF (by decide) (by decide))) hd ho (by omega) (by omega) (by omega) (fun ⟨f, hf⟩ => hac ⟨f + 1, Or.inr ⟨by omega, Or.inr (Or.inr (Or.inr (Or.inl ⟨by omega, by omega, _, (uh2388 (by omega)).2, (by rw [show z2389.toInt.toNat = 2 by omega] at hf; exact hf)⟩)))⟩⟩) (by omega)
                            · refine s_iconst C dX10_conditionFault_234 (by decide) (fun z2391 tz2391 => ?_)
                              refine s_iload_n C dX10_conditionFault_235 rfl ?_
                              refine s_isub C dX10_conditionFault_236 (by omega) (fun z2392 tz2392 => ?_)
                              exact s_iret C X dX10_conditionFault_237 ⟨(Fr.tr Fr.rf (Fr.mo kF (by decide) (by decide))), by omega, by omega, fun q => by omega⟩
                  · refine s_aload_n C dX10_conditionFault_108 rfl ?_
                    refine s_iload_n C dX10_conditionFault_109 rfl ?_
                    refine s_iconst C dX10_conditionFault_110 (by decide) (fun z2393 tz2393 => ?_)
                    refine s_iadd C dX10_conditionFault_111 (by omega) (fun z2394 tz2394 => ?_)
                    refine s_callVI (st := []) C (c_X10_behindUnit l ad τ z2394 (by omega) (by omega) (by omega)) cv_X10_263 y71 rfl rfl rfl ⟨by decide, by decide⟩ (Nat.le_of_ble_eq_true rfl) dX10_conditionFault_112 ?_
                    intro r2395 τ2396 h2397
                    obtain ⟨eh2397, h2397⟩ := h2397; replace eh2397 := eh2397.symm; subst eh2397
                    have uh2397 := h2397.2.2
                    rw [f0, f17, e86] at uh2397
                    have vh2397 : 0 ≤ Int32.toInt r2395 → Int32.toInt r2395 ≤ Int32.toInt (σ.1 71 17) := fun q => by have := un_le (uh2397 q).2; omega
                    skip
                    refine s_istore_n C dX10_conditionFault_115 (by decide) (Nat.le_of_ble_eq_true rfl) rfl ?_
                    show WP E ad 116 [some (.ref (ad 71)), some (.int y), some (.int r2395), some (.int (τ.1 86 z.toNatClampNeg))] [] τ
                    refine s_goto (tgt := 230) C dX10_conditionFault_116 (by decide) ?_
                    refine s_iload_n C dX10_conditionFault_230 rfl ?_
                    refine s_if_ge (tgt := 238) C dX10_conditionFault_231 (by decide) (fun q2398 => ?_) (fun q2398 => ?_)
                    · refine s_goto (tgt := 9) C dX10_conditionFault_238 (by decide) ?_
                      refine wp_le (lv' := [some (.ref (ad 71)), some (.int y), some (.int r2395), none]) ⟨rfl, ⟨rfl, ⟨rfl, trivial⟩⟩⟩ ?_
                      have ez1 : z2394.toInt.toNat = z.toInt.toNat + 1 := by omega
                      rw [ez1] at uh2397
                      exact ih τ o y r2395 (Fr.tr Fr.rf (Fr.mo kF (by decide) (by decide))) hd ho (by omega) (by omega) (by omega) (fun ⟨f, hf⟩ => hac ⟨f + 1, Or.inr ⟨by omega, Or.inr (Or.inr (Or.inl ⟨by omega, by omega, _, (uh2397 (by omega)).2, hf⟩))⟩⟩) (by omega)
                    · refine s_iconst C dX10_conditionFault_234 (by decide) (fun z2399 tz2399 => ?_)
                      refine s_iload_n C dX10_conditionFault_235 rfl ?_
                      refine s_isub C dX10_conditionFault_236 (by omega) (fun z2400 tz2400 => ?_)
                      exact s_iret C X dX10_conditionFault_237 ⟨(Fr.tr Fr.rf (Fr.mo kF (by decide) (by decide))), by omega, by omega, fun q => by omega⟩
            · refine s_aload_n C dX10_conditionFault_80 rfl ?_
              refine s_iload_n C dX10_conditionFault_81 rfl ?_
              refine s_callVI (st := []) C (c_X10_behindUnit l ad τ z (by omega) (by omega) (by omega)) cv_X10_263 y71 rfl rfl rfl ⟨by decide, by decide⟩ (Nat.le_of_ble_eq_true rfl) dX10_conditionFault_82 ?_
              intro r2401 τ2402 h2403
              obtain ⟨eh2403, h2403⟩ := h2403; replace eh2403 := eh2403.symm; subst eh2403
              have uh2403 := h2403.2.2
              rw [f0, f17, e86] at uh2403
              have vh2403 : 0 ≤ Int32.toInt r2401 → Int32.toInt r2401 ≤ Int32.toInt (σ.1 71 17) := fun q => by have := un_le (uh2403 q).2; omega
              skip
              refine s_istore_n C dX10_conditionFault_85 (by decide) (Nat.le_of_ble_eq_true rfl) rfl ?_
              show WP E ad 86 [some (.ref (ad 71)), some (.int y), some (.int r2401), some (.int (τ.1 86 z.toNatClampNeg))] [] τ
              refine s_iconst C dX10_conditionFault_86 (by decide) (fun z2404 tz2404 => ?_)
              refine s_istore_n C dX10_conditionFault_87 (by decide) (Nat.le_of_ble_eq_true rfl) rfl ?_
              show WP E ad 88 [some (.ref (ad 71)), some (.int z2404), some (.int r2401), some (.int (τ.1 86 z.toNatClampNeg))] [] τ
              refine s_goto (tgt := 230) C dX10_conditionFault_88 (by decide) ?_
              refine s_iload_n C dX10_conditionFault_230 rfl ?_
              refine s_if_ge (tgt := 238) C dX10_conditionFault_231 (by decide) (fun q2405 => ?_) (fun q2405 => ?_)
              · refine s_goto (tgt := 9) C dX10_conditionFault_238 (by decide) ?_
                refine wp_le (lv' := [some (.ref (ad 71)), some (.int z2404), some (.int r2401), none]) ⟨rfl, ⟨rfl, ⟨rfl, trivial⟩⟩⟩ ?_
                exact ih τ o z2404 r2401 (Fr.tr Fr.rf (Fr.mo kF (by decide) (by decide))) hd ho (by omega) (by omega) (by omega) (fun ⟨f, hf⟩ => hac ⟨f + 1, Or.inr ⟨by omega, Or.inr (Or.inl ⟨by omega, by omega, _, (uh2403 (by omega)).2, (by rw [show z2404.toInt.toNat = 1 by omega] at hf; exact hf)⟩)⟩⟩) (by omega)
              · refine s_iconst C dX10_conditionFault_234 (by decide) (fun z2406 tz2406 => ?_)
                refine s_iload_n C dX10_conditionFault_235 rfl ?_
                refine s_isub C dX10_conditionFault_236 (by omega) (fun z2407 tz2407 => ?_)
                exact s_iret C X dX10_conditionFault_237 ⟨(Fr.tr Fr.rf (Fr.mo kF (by decide) (by decide))), by omega, by omega, fun q => by omega⟩
          · refine s_aload_n C dX10_conditionFault_40 rfl ?_
            refine s_get (k := 49) (x := (τ.1 71 49)) C y71 fw_X10_260 rfl rfl dX10_conditionFault_41 ?_
            refine s_iconst C dX10_conditionFault_44 (by decide) (fun z2408 tz2408 => ?_)
            refine s_icmp_ne (tgt := 50) C dX10_conditionFault_45 (by decide) (fun q2409 => ?_) (fun q2409 => ?_)
            · refine s_aload_n C dX10_conditionFault_50 rfl ?_
              refine s_getr (k := 48) (j := 109) C y71 fw_X10_128 rfl dX10_conditionFault_51 ?_
              refine s_aload_n C dX10_conditionFault_54 rfl ?_
              refine s_get (k := 49) (x := (τ.1 71 49)) C y71 fw_X10_260 rfl rfl dX10_conditionFault_55 ?_
              refine s_iload_n C dX10_conditionFault_58 rfl ?_
              refine s_iast C y109 (by omega) dX10_conditionFault_59 ?_
              skip
              refine s_aload_n C dX10_conditionFault_60 rfl ?_
              refine s_dup C dX10_conditionFault_61 rfl ?_
              refine s_get (k := 49) (x := (τ.1 71 49)) C y71 fw_X10_260 rfl rfl dX10_conditionFault_62 ?_
              refine s_iconst C dX10_conditionFault_65 (by decide) (fun z2410 tz2410 => ?_)
              refine s_iadd C dX10_conditionFault_66 (by omega) (fun z2411 tz2411 => ?_)
              refine s_put (k := 49) C y71 fw_X10_260 fp_9_49 rfl dX10_conditionFault_67 ?_
              refine s_iinc C dX10_conditionFault_70 rfl (by decide) rfl (by decide) (by omega) (fun z2412 tz2412 => ?_)
              show WP E ad 73 [some (.ref (ad 71)), some (.int y), some (.int z2412), some (.int (τ.1 86 z.toNatClampNeg))] [] (sV (sV τ 109 ((τ.1 71 49).toNatClampNeg) (τ.1 86 z.toNatClampNeg)) 71 49 z2411)
              refine s_goto (tgt := 230) C dX10_conditionFault_73 (by decide) ?_
              refine s_iload_n C dX10_conditionFault_230 rfl ?_
              refine s_if_ge (tgt := 238) C dX10_conditionFault_231 (by decide) (fun q2413 => ?_) (fun q2413 => ?_)
              · refine s_goto (tgt := 9) C dX10_conditionFault_238 (by decide) ?_
                refine wp_le (lv' := [some (.ref (ad 71)), some (.int y), some (.int z2412), none]) ⟨rfl, ⟨rfl, ⟨rfl, trivial⟩⟩⟩ ?_
                have ek1 : z2412.toInt.toNat = z.toInt.toNat + 1 := by omega
                have hdn : (τ.1 71 49).toNatClampNeg = o.length := by unfold Int32.toNatClampNeg; omega
                have hop : Op ((sV (sV τ 109 ((τ.1 71 49).toNatClampNeg) (τ.1 86 z.toNatClampNeg)) 71 49 z2411).1 109) (decide (Int32.toInt (σ.1 86 z.toInt.toNat) = 40) :: o) := by show Op (upd (τ.1 109) (τ.1 71 49).toNatClampNeg (τ.1 86 z.toNatClampNeg)) _; rw [hdn]; exact Op_push ho (by omega) (by omega)
                exact ih (sV (sV τ 109 ((τ.1 71 49).toNatClampNeg) (τ.1 86 z.toNatClampNeg)) 71 49 z2411) (decide (Int32.toInt (σ.1 86 z.toInt.toNat) = 40) :: o) y z2412 (Fr.sV (Fr.sV (Fr.tr Fr.rf (Fr.mo kF (by decide) (by decide))) (Or.inl (by decide))) (Or.inr (by decide))) (by show Int32.toInt z2411 = ((_ :: o : List Bool).length : Int); rw [List.length_cons]; omega) hop (by rw [List.length_cons]; omega) (by omega) (by omega) (fun ⟨f, hf⟩ => hac ⟨f + 1, Or.inr ⟨by omega, Or.inl ⟨by omega, by omega, by omega, (by rw [ek1, show y.toInt.toNat = 0 by omega] at hf; exact hf)⟩⟩⟩) (by omega)
              · refine s_iconst C dX10_conditionFault_234 (by decide) (fun z2414 tz2414 => ?_)
                refine s_iload_n C dX10_conditionFault_235 rfl ?_
                refine s_isub C dX10_conditionFault_236 (by omega) (fun z2415 tz2415 => ?_)
                exact s_iret C X dX10_conditionFault_237 ⟨(Fr.sV (Fr.sV (Fr.tr Fr.rf (Fr.mo kF (by decide) (by decide))) (Or.inl (by decide))) (Or.inr (by decide))), by omega, by omega, fun q => by omega⟩
            · refine s_iload_n C dX10_conditionFault_48 rfl ?_
              exact s_iret C X dX10_conditionFault_49 ⟨(Fr.tr Fr.rf (Fr.mo kF (by decide) (by decide))), by omega, by omega, fun q => by omega⟩
set_option maxRecDepth 100000 in
theorem c_X10_conditionFault (l : Launch) (ad : Nat → Nat) (σ : Sg) (htp : 0 ≤ (σ.1 71 17).toInt ∧ (σ.1 71 17).toInt ≤ 60) (hpr : 1 ≤ (σ.1 71 0).toInt ∧ (σ.1 71 0).toInt ≤ 4) : Mt l yX10_conditionFault cX10_conditionFault 4 (some .int) 3 ad σ [.ref (ad 71)] (oI (fun r τ => Fr [109] [(71, 49)] σ τ ∧ -1 ≤ r.toInt ∧ r.toInt ≤ 70 ∧ (r.toInt < 0 → WF (σ.1 71 0).toInt (σ.1 86) (σ.1 71 17).toInt.toNat))) := by
  refine Mt_intro (by decide +kernel) (by simp [lg_sl, Value.category]) (fun E C X => ?_)
  show WP E ad 0 [some (.ref (ad 71)), none, none, none] [] σ
  refine s_iconst C dX10_conditionFault_0 (by decide) (fun z1 tz1 => ?_)
  refine s_istore_n C dX10_conditionFault_1 (by decide) (Nat.le_of_ble_eq_true rfl) rfl ?_
  show WP E ad 2 [some (.ref (ad 71)), some (.int z1), none, none] [] σ
  refine s_iconst C dX10_conditionFault_2 (by decide) (fun z2 tz2 => ?_)
  refine s_istore_n C dX10_conditionFault_3 (by decide) (Nat.le_of_ble_eq_true rfl) rfl ?_
  show WP E ad 4 [some (.ref (ad 71)), some (.int z1), some (.int z2), none] [] σ
  refine s_aload_n C dX10_conditionFault_4 rfl ?_
  refine s_iconst C dX10_conditionFault_5 (by decide) (fun z3 tz3 => ?_)
  refine s_put (k := 49) C y71 fw_X10_260 fp_9_49 rfl dX10_conditionFault_6 ?_
  exact L_condFault l ad E σ htp hpr C X 100 (sV σ 71 49 z3) [] z1 z2 (Fr.sV Fr.rf (Or.inr (by decide))) (by show Int32.toInt z3 = 0; omega) trivial (by simp) (by omega) (by omega) (fun ⟨f, hf⟩ => ⟨f, (by rw [show z1.toInt.toNat = 0 by omega, show z2.toInt.toNat = 0 by omega] at hf; exact hf)⟩) (by omega)
