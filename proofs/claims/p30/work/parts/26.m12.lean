set_option maxRecDepth 100000 in
theorem c_X10_wants (l : Launch) (ad : Nat → Nat) (σ : Sg) (c : Int32) (hc : 0 ≤ c.toInt) (htp : 0 ≤ (σ.1 71 17).toInt ∧ (σ.1 71 17).toInt ≤ 60) (hpl : 0 ≤ (σ.1 71 64).toInt ∧ (σ.1 71 64).toInt ≤ (σ.1 71 17).toInt) (hba : (σ.1 71 65).toInt = 0 ∨ (σ.1 71 65).toInt = 1) : Mt l yX10_wants cX10_wants 2 none 1 ad σ [.ref (ad 71), .int c] (oV (fun τ => Fr [] [(71, 64), (71, 65)] σ τ ∧ ((τ.1 71 65).toInt = 1 ∧ (τ.1 71 64).toInt = (σ.1 71 64).toInt ∨ (τ.1 71 65).toInt = 0 ∧ (τ.1 71 64).toInt = (σ.1 71 64).toInt + 1 ∧ (σ.1 71 65).toInt = 0 ∧ (τ.1 71 64).toInt ≤ (σ.1 71 17).toInt))) := by
  refine Mt_intro (by decide +kernel) (by simp [lg_sl, Value.category]) (fun E C X => ?_)
  show WP E ad 0 [some (.ref (ad 71)), some (.int c)] [] σ
  refine s_aload_n C dX10_wants_0 rfl ?_
  refine s_aload_n C dX10_wants_1 rfl ?_
  refine s_get (k := 65) (x := (σ.1 71 65)) C y71 fw_X10_321 rfl rfl dX10_wants_2 ?_
  refine s_if_ne (tgt := 20) C dX10_wants_5 (by decide) (fun q1 => ?_) (fun q1 => ?_)
  · refine s_iconst C dX10_wants_20 (by decide) (fun z2 tz2 => ?_)
    refine s_goto (tgt := 25) C dX10_wants_21 (by decide) ?_
    refine s_putz (k := 65) C y71 fw_X10_321 fp_9_65 rfl (by omega) dX10_wants_25 ?_
    refine s_aload_n C dX10_wants_28 rfl ?_
    refine s_dup C dX10_wants_29 rfl ?_
    refine s_get (k := 64) (x := (σ.1 71 64)) C y71 fw_X10_324 rfl rfl dX10_wants_30 ?_
    refine s_aload_n C dX10_wants_33 rfl ?_
    refine s_get (k := 65) (x := z2) C y71 fw_X10_321 rfl rfl dX10_wants_34 ?_
    refine s_if_eq (tgt := 44) C dX10_wants_37 (by decide) (fun q3 => ?_) (fun q3 => ?_)
    · refine s_iconst C dX10_wants_44 (by decide) (fun z4 tz4 => ?_)
      refine s_iadd C dX10_wants_45 (by omega) (fun z5 tz5 => ?_)
      refine s_put (k := 64) C y71 fw_X10_324 fp_9_64 rfl dX10_wants_46 ?_
      exact s_vret C X dX10_wants_49 ⟨(Fr.sV (Fr.sV Fr.rf (Or.inr (by decide))) (Or.inr (by decide))), by show (Int32.toInt z2 = 1 ∧ Int32.toInt z5 = _ ∨ Int32.toInt z2 = 0 ∧ Int32.toInt z5 = _ ∧ _ ∧ Int32.toInt z5 ≤ _); omega⟩
    · refine s_iconst C dX10_wants_40 (by decide) (fun z6 tz6 => ?_)
      refine s_goto (tgt := 45) C dX10_wants_41 (by decide) ?_
      refine s_iadd C dX10_wants_45 (by omega) (fun z7 tz7 => ?_)
      refine s_put (k := 64) C y71 fw_X10_324 fp_9_64 rfl dX10_wants_46 ?_
      exact s_vret C X dX10_wants_49 ⟨(Fr.sV (Fr.sV Fr.rf (Or.inr (by decide))) (Or.inr (by decide))), by show (Int32.toInt z2 = 1 ∧ Int32.toInt z7 = _ ∨ Int32.toInt z2 = 0 ∧ Int32.toInt z7 = _ ∧ _ ∧ Int32.toInt z7 ≤ _); omega⟩
  · refine s_aload_n C dX10_wants_8 rfl ?_
    refine s_aload_n C dX10_wants_9 rfl ?_
    refine s_get (k := 64) (x := (σ.1 71 64)) C y71 fw_X10_324 rfl rfl dX10_wants_10 ?_
    refine s_callVI (st := [.ref (ad 71)]) C (c_X10_tapeAt l ad σ (σ.1 71 64) (by show 0 ≤ Int32.toInt (σ.1 71 64); omega) (by show 0 ≤ Int32.toInt (σ.1 71 17) ∧ Int32.toInt (σ.1 71 17) ≤ 60; omega)) cv_X10_254 y71 rfl rfl rfl ⟨by decide, by decide⟩ (Nat.le_of_ble_eq_true rfl) dX10_wants_13 ?_
    intro r8 τ9 h10
    obtain ⟨eh10, h10⟩ := h10; replace eh10 := eh10.symm; subst eh10
    have ah10 : Int32.toInt (σ.1 71 64) < Int32.toInt (σ.1 71 17) → Int32.toInt r8 = Int32.toInt (σ.1 86 ((σ.1 71 64).toNatClampNeg)) := fun q => congrArg Int32.toInt (h10.1 q)
    have bh10 : Int32.toInt (σ.1 71 17) ≤ Int32.toInt (σ.1 71 64) → Int32.toInt r8 = -1 := h10.2
    clear h10
    refine s_iload_n C dX10_wants_16 rfl ?_
    refine s_icmp_eq (tgt := 24) C dX10_wants_17 (by decide) (fun q11 => ?_) (fun q11 => ?_)
    · refine s_iconst C dX10_wants_24 (by decide) (fun z12 tz12 => ?_)
      refine s_putz (k := 65) C y71 fw_X10_321 fp_9_65 rfl (by omega) dX10_wants_25 ?_
      refine s_aload_n C dX10_wants_28 rfl ?_
      refine s_dup C dX10_wants_29 rfl ?_
      refine s_get (k := 64) (x := (σ.1 71 64)) C y71 fw_X10_324 rfl rfl dX10_wants_30 ?_
      refine s_aload_n C dX10_wants_33 rfl ?_
      refine s_get (k := 65) (x := z12) C y71 fw_X10_321 rfl rfl dX10_wants_34 ?_
      refine s_if_eq (tgt := 44) C dX10_wants_37 (by decide) (fun q13 => ?_) (fun q13 => ?_)
      · refine s_iconst C dX10_wants_44 (by decide) (fun z14 tz14 => ?_)
        refine s_iadd C dX10_wants_45 (by omega) (fun z15 tz15 => ?_)
        refine s_put (k := 64) C y71 fw_X10_324 fp_9_64 rfl dX10_wants_46 ?_
        exact s_vret C X dX10_wants_49 ⟨(Fr.sV (Fr.sV Fr.rf (Or.inr (by decide))) (Or.inr (by decide))), by show (Int32.toInt z12 = 1 ∧ Int32.toInt z15 = _ ∨ Int32.toInt z12 = 0 ∧ Int32.toInt z15 = _ ∧ _ ∧ Int32.toInt z15 ≤ _); omega⟩
      · refine s_iconst C dX10_wants_40 (by decide) (fun z16 tz16 => ?_)
        refine s_goto (tgt := 45) C dX10_wants_41 (by decide) ?_
        refine s_iadd C dX10_wants_45 (by omega) (fun z17 tz17 => ?_)
        refine s_put (k := 64) C y71 fw_X10_324 fp_9_64 rfl dX10_wants_46 ?_
        exact s_vret C X dX10_wants_49 ⟨(Fr.sV (Fr.sV Fr.rf (Or.inr (by decide))) (Or.inr (by decide))), by show (Int32.toInt z12 = 1 ∧ Int32.toInt z17 = _ ∨ Int32.toInt z12 = 0 ∧ Int32.toInt z17 = _ ∧ _ ∧ Int32.toInt z17 ≤ _); omega⟩
    · refine s_iconst C dX10_wants_20 (by decide) (fun z18 tz18 => ?_)
      refine s_goto (tgt := 25) C dX10_wants_21 (by decide) ?_
      refine s_putz (k := 65) C y71 fw_X10_321 fp_9_65 rfl (by omega) dX10_wants_25 ?_
      refine s_aload_n C dX10_wants_28 rfl ?_
      refine s_dup C dX10_wants_29 rfl ?_
      refine s_get (k := 64) (x := (σ.1 71 64)) C y71 fw_X10_324 rfl rfl dX10_wants_30 ?_
      refine s_aload_n C dX10_wants_33 rfl ?_
      refine s_get (k := 65) (x := z18) C y71 fw_X10_321 rfl rfl dX10_wants_34 ?_
      refine s_if_eq (tgt := 44) C dX10_wants_37 (by decide) (fun q19 => ?_) (fun q19 => ?_)
      · refine s_iconst C dX10_wants_44 (by decide) (fun z20 tz20 => ?_)
        refine s_iadd C dX10_wants_45 (by omega) (fun z21 tz21 => ?_)
        refine s_put (k := 64) C y71 fw_X10_324 fp_9_64 rfl dX10_wants_46 ?_
        exact s_vret C X dX10_wants_49 ⟨(Fr.sV (Fr.sV Fr.rf (Or.inr (by decide))) (Or.inr (by decide))), by show (Int32.toInt z18 = 1 ∧ Int32.toInt z21 = _ ∨ Int32.toInt z18 = 0 ∧ Int32.toInt z21 = _ ∧ _ ∧ Int32.toInt z21 ≤ _); omega⟩
      · refine s_iconst C dX10_wants_40 (by decide) (fun z22 tz22 => ?_)
        refine s_goto (tgt := 45) C dX10_wants_41 (by decide) ?_
        refine s_iadd C dX10_wants_45 (by omega) (fun z23 tz23 => ?_)
        refine s_put (k := 64) C y71 fw_X10_324 fp_9_64 rfl dX10_wants_46 ?_
        exact s_vret C X dX10_wants_49 ⟨(Fr.sV (Fr.sV Fr.rf (Or.inr (by decide))) (Or.inr (by decide))), by show (Int32.toInt z18 = 1 ∧ Int32.toInt z23 = _ ∨ Int32.toInt z18 = 0 ∧ Int32.toInt z23 = _ ∧ _ ∧ Int32.toInt z23 ≤ _); omega⟩
set_option maxRecDepth 100000 in
theorem c_X10_figure (l : Launch) (ad : Nat → Nat) (σ : Sg) (htp : 0 ≤ (σ.1 71 17).toInt ∧ (σ.1 71 17).toInt ≤ 60) (hpl : 0 ≤ (σ.1 71 64).toInt ∧ (σ.1 71 64).toInt ≤ (σ.1 71 17).toInt) (hba : (σ.1 71 65).toInt = 0 ∨ (σ.1 71 65).toInt = 1) : Mt l yX10_figure cX10_figure 2 (some .int) 2 ad σ [.ref (ad 71)] (oI (fun r τ => Fr [] [(71, 64), (71, 65)] σ τ ∧ ((τ.1 71 65).toInt = 1 ∧ (τ.1 71 64).toInt = (σ.1 71 64).toInt ∨ (τ.1 71 65).toInt = 0 ∧ (τ.1 71 64).toInt = (σ.1 71 64).toInt + 1 ∧ (σ.1 71 65).toInt = 0 ∧ (τ.1 71 64).toInt ≤ (σ.1 71 17).toInt) ∧ 0 ≤ r.toInt ∧ r.toInt ≤ 9)) := by
  refine Mt_intro (by decide +kernel) (by simp [lg_sl, Value.category]) (fun E C X => ?_)
  show WP E ad 0 [some (.ref (ad 71)), none] [] σ
  refine s_aload_n C dX10_figure_0 rfl ?_
  refine s_aload_n C dX10_figure_1 rfl ?_
  refine s_get (k := 65) (x := (σ.1 71 65)) C y71 fw_X10_321 rfl rfl dX10_figure_2 ?_
  refine s_if_ne (tgt := 22) C dX10_figure_5 (by decide) (fun q1 => ?_) (fun q1 => ?_)
  · refine s_iconst C dX10_figure_22 (by decide) (fun z2 tz2 => ?_)
    refine s_goto (tgt := 27) C dX10_figure_23 (by decide) ?_
    refine s_putz (k := 65) C y71 fw_X10_321 fp_9_65 rfl (by omega) dX10_figure_27 ?_
    refine s_aload_n C dX10_figure_30 rfl ?_
    refine s_get (k := 65) (x := z2) C y71 fw_X10_321 rfl rfl dX10_figure_31 ?_
    refine s_if_eq (tgt := 41) C dX10_figure_34 (by decide) (fun q3 => ?_) (fun q3 => ?_)
    · refine s_aload_n C dX10_figure_41 rfl ?_
      refine s_aload_n C dX10_figure_42 rfl ?_
      refine s_get (k := 64) (x := (σ.1 71 64)) C y71 fw_X10_324 rfl rfl dX10_figure_43 ?_
      refine s_callVI (st := []) C (c_X10_tapeAt l ad (sV σ 71 65 z2) (σ.1 71 64) (by show 0 ≤ Int32.toInt (σ.1 71 64); omega) (by show 0 ≤ Int32.toInt (σ.1 71 17) ∧ Int32.toInt (σ.1 71 17) ≤ 60; omega)) cv_X10_254 y71 rfl rfl rfl ⟨by decide, by decide⟩ (Nat.le_of_ble_eq_true rfl) dX10_figure_46 ?_
      intro r4 τ5 h6
      obtain ⟨eh6, h6⟩ := h6; replace eh6 := eh6.symm; subst eh6
      have ah6 : Int32.toInt (σ.1 71 64) < Int32.toInt (σ.1 71 17) → Int32.toInt r4 = Int32.toInt (σ.1 86 ((σ.1 71 64).toNatClampNeg)) := fun q => congrArg Int32.toInt (h6.1 q)
      have bh6 : Int32.toInt (σ.1 71 17) ≤ Int32.toInt (σ.1 71 64) → Int32.toInt r4 = -1 := h6.2
      clear h6
      refine s_bipush C dX10_figure_49 (by decide) (fun z7 tz7 => ?_)
      refine s_isub C dX10_figure_51 (by omega) (fun z8 tz8 => ?_)
      refine s_istore_n C dX10_figure_52 (by decide) (Nat.le_of_ble_eq_true rfl) rfl ?_
      show WP E ad 53 [some (.ref (ad 71)), some (.int z8)] [] (sV σ 71 65 z2)
      refine s_aload_n C dX10_figure_53 rfl ?_
      refine s_dup C dX10_figure_54 rfl ?_
      refine s_get (k := 64) (x := (σ.1 71 64)) C y71 fw_X10_324 rfl rfl dX10_figure_55 ?_
      refine s_aload_n C dX10_figure_58 rfl ?_
      refine s_get (k := 65) (x := z2) C y71 fw_X10_321 rfl rfl dX10_figure_59 ?_
      refine s_if_eq (tgt := 69) C dX10_figure_62 (by decide) (fun q9 => ?_) (fun q9 => ?_)
      · refine s_iconst C dX10_figure_69 (by decide) (fun z10 tz10 => ?_)
        refine s_iadd C dX10_figure_70 (by omega) (fun z11 tz11 => ?_)
        refine s_put (k := 64) C y71 fw_X10_324 fp_9_64 rfl dX10_figure_71 ?_
        refine s_iload_n C dX10_figure_74 rfl ?_
        exact s_iret C X dX10_figure_75 ⟨(Fr.sV (Fr.sV Fr.rf (Or.inr (by decide))) (Or.inr (by decide))), by show (Int32.toInt z2 = 1 ∧ Int32.toInt z11 = _ ∨ Int32.toInt z2 = 0 ∧ Int32.toInt z11 = _ ∧ _ ∧ Int32.toInt z11 ≤ _); omega, by omega⟩
      · refine s_iconst C dX10_figure_65 (by decide) (fun z12 tz12 => ?_)
        refine s_goto (tgt := 70) C dX10_figure_66 (by decide) ?_
        refine s_iadd C dX10_figure_70 (by omega) (fun z13 tz13 => ?_)
        refine s_put (k := 64) C y71 fw_X10_324 fp_9_64 rfl dX10_figure_71 ?_
        refine s_iload_n C dX10_figure_74 rfl ?_
        exact s_iret C X dX10_figure_75 ⟨(Fr.sV (Fr.sV Fr.rf (Or.inr (by decide))) (Or.inr (by decide))), by show (Int32.toInt z2 = 1 ∧ Int32.toInt z13 = _ ∨ Int32.toInt z2 = 0 ∧ Int32.toInt z13 = _ ∧ _ ∧ Int32.toInt z13 ≤ _); omega, by omega⟩
    · refine s_iconst C dX10_figure_37 (by decide) (fun z14 tz14 => ?_)
      refine s_goto (tgt := 52) C dX10_figure_38 (by decide) ?_
      refine s_istore_n C dX10_figure_52 (by decide) (Nat.le_of_ble_eq_true rfl) rfl ?_
      show WP E ad 53 [some (.ref (ad 71)), some (.int z14)] [] (sV σ 71 65 z2)
      refine s_aload_n C dX10_figure_53 rfl ?_
      refine s_dup C dX10_figure_54 rfl ?_
      refine s_get (k := 64) (x := (σ.1 71 64)) C y71 fw_X10_324 rfl rfl dX10_figure_55 ?_
      refine s_aload_n C dX10_figure_58 rfl ?_
      refine s_get (k := 65) (x := z2) C y71 fw_X10_321 rfl rfl dX10_figure_59 ?_
      refine s_if_eq (tgt := 69) C dX10_figure_62 (by decide) (fun q15 => ?_) (fun q15 => ?_)
      · refine s_iconst C dX10_figure_69 (by decide) (fun z16 tz16 => ?_)
        refine s_iadd C dX10_figure_70 (by omega) (fun z17 tz17 => ?_)
        refine s_put (k := 64) C y71 fw_X10_324 fp_9_64 rfl dX10_figure_71 ?_
        refine s_iload_n C dX10_figure_74 rfl ?_
        exact s_iret C X dX10_figure_75 ⟨(Fr.sV (Fr.sV Fr.rf (Or.inr (by decide))) (Or.inr (by decide))), by show (Int32.toInt z2 = 1 ∧ Int32.toInt z17 = _ ∨ Int32.toInt z2 = 0 ∧ Int32.toInt z17 = _ ∧ _ ∧ Int32.toInt z17 ≤ _); omega, by omega⟩
      · refine s_iconst C dX10_figure_65 (by decide) (fun z18 tz18 => ?_)
        refine s_goto (tgt := 70) C dX10_figure_66 (by decide) ?_
        refine s_iadd C dX10_figure_70 (by omega) (fun z19 tz19 => ?_)
        refine s_put (k := 64) C y71 fw_X10_324 fp_9_64 rfl dX10_figure_71 ?_
        refine s_iload_n C dX10_figure_74 rfl ?_
        exact s_iret C X dX10_figure_75 ⟨(Fr.sV (Fr.sV Fr.rf (Or.inr (by decide))) (Or.inr (by decide))), by show (Int32.toInt z2 = 1 ∧ Int32.toInt z19 = _ ∨ Int32.toInt z2 = 0 ∧ Int32.toInt z19 = _ ∧ _ ∧ Int32.toInt z19 ≤ _); omega, by omega⟩
  · refine s_aload_n C dX10_figure_8 rfl ?_
    refine s_aload_n C dX10_figure_9 rfl ?_
    refine s_get (k := 64) (x := (σ.1 71 64)) C y71 fw_X10_324 rfl rfl dX10_figure_10 ?_
    refine s_callVI (st := [.ref (ad 71)]) C (c_X10_tapeAt l ad σ (σ.1 71 64) (by show 0 ≤ Int32.toInt (σ.1 71 64); omega) (by show 0 ≤ Int32.toInt (σ.1 71 17) ∧ Int32.toInt (σ.1 71 17) ≤ 60; omega)) cv_X10_254 y71 rfl rfl rfl ⟨by decide, by decide⟩ (Nat.le_of_ble_eq_true rfl) dX10_figure_13 ?_
    intro r20 τ21 h22
    obtain ⟨eh22, h22⟩ := h22; replace eh22 := eh22.symm; subst eh22
    have ah22 : Int32.toInt (σ.1 71 64) < Int32.toInt (σ.1 71 17) → Int32.toInt r20 = Int32.toInt (σ.1 86 ((σ.1 71 64).toNatClampNeg)) := fun q => congrArg Int32.toInt (h22.1 q)
    have bh22 : Int32.toInt (σ.1 71 17) ≤ Int32.toInt (σ.1 71 64) → Int32.toInt r20 = -1 := h22.2
    clear h22
    refine s_callSI (st := [.ref (ad 71)]) C (c_X10_isFigure l ad σ r20 ) cv_X10_257 rfl rfl ⟨by decide, by decide⟩ (Nat.le_of_ble_eq_true rfl) dX10_figure_16 ?_
    intro r23 τ24 h25
    obtain ⟨eh25, h25⟩ := h25; replace eh25 := eh25.symm; subst eh25
    refine s_if_ne (tgt := 26) C dX10_figure_19 (by decide) (fun q26 => ?_) (fun q26 => ?_)
    · refine s_iconst C dX10_figure_26 (by decide) (fun z27 tz27 => ?_)
      refine s_putz (k := 65) C y71 fw_X10_321 fp_9_65 rfl (by omega) dX10_figure_27 ?_
      refine s_aload_n C dX10_figure_30 rfl ?_
      refine s_get (k := 65) (x := z27) C y71 fw_X10_321 rfl rfl dX10_figure_31 ?_
      refine s_if_eq (tgt := 41) C dX10_figure_34 (by decide) (fun q28 => ?_) (fun q28 => ?_)
      · refine s_aload_n C dX10_figure_41 rfl ?_
        refine s_aload_n C dX10_figure_42 rfl ?_
        refine s_get (k := 64) (x := (σ.1 71 64)) C y71 fw_X10_324 rfl rfl dX10_figure_43 ?_
        refine s_callVI (st := []) C (c_X10_tapeAt l ad (sV σ 71 65 z27) (σ.1 71 64) (by show 0 ≤ Int32.toInt (σ.1 71 64); omega) (by show 0 ≤ Int32.toInt (σ.1 71 17) ∧ Int32.toInt (σ.1 71 17) ≤ 60; omega)) cv_X10_254 y71 rfl rfl rfl ⟨by decide, by decide⟩ (Nat.le_of_ble_eq_true rfl) dX10_figure_46 ?_
        intro r29 τ30 h31
        obtain ⟨eh31, h31⟩ := h31; replace eh31 := eh31.symm; subst eh31
        have ah31 : Int32.toInt (σ.1 71 64) < Int32.toInt (σ.1 71 17) → Int32.toInt r29 = Int32.toInt (σ.1 86 ((σ.1 71 64).toNatClampNeg)) := fun q => congrArg Int32.toInt (h31.1 q)
        have bh31 : Int32.toInt (σ.1 71 17) ≤ Int32.toInt (σ.1 71 64) → Int32.toInt r29 = -1 := h31.2
        clear h31
        refine s_bipush C dX10_figure_49 (by decide) (fun z32 tz32 => ?_)
        refine s_isub C dX10_figure_51 (by omega) (fun z33 tz33 => ?_)
        refine s_istore_n C dX10_figure_52 (by decide) (Nat.le_of_ble_eq_true rfl) rfl ?_
        show WP E ad 53 [some (.ref (ad 71)), some (.int z33)] [] (sV σ 71 65 z27)
        refine s_aload_n C dX10_figure_53 rfl ?_
        refine s_dup C dX10_figure_54 rfl ?_
        refine s_get (k := 64) (x := (σ.1 71 64)) C y71 fw_X10_324 rfl rfl dX10_figure_55 ?_
        refine s_aload_n C dX10_figure_58 rfl ?_
        refine s_get (k := 65) (x := z27) C y71 fw_X10_321 rfl rfl dX10_figure_59 ?_
        refine s_if_eq (tgt := 69) C dX10_figure_62 (by decide) (fun q34 => ?_) (fun q34 => ?_)
        · refine s_iconst C dX10_figure_69 (by decide) (fun z35 tz35 => ?_)
          refine s_iadd C dX10_figure_70 (by omega) (fun z36 tz36 => ?_)
          refine s_put (k := 64) C y71 fw_X10_324 fp_9_64 rfl dX10_figure_71 ?_
          refine s_iload_n C dX10_figure_74 rfl ?_
          exact s_iret C X dX10_figure_75 ⟨(Fr.sV (Fr.sV Fr.rf (Or.inr (by decide))) (Or.inr (by decide))), by show (Int32.toInt z27 = 1 ∧ Int32.toInt z36 = _ ∨ Int32.toInt z27 = 0 ∧ Int32.toInt z36 = _ ∧ _ ∧ Int32.toInt z36 ≤ _); omega, by omega⟩
        · refine s_iconst C dX10_figure_65 (by decide) (fun z37 tz37 => ?_)
          refine s_goto (tgt := 70) C dX10_figure_66 (by decide) ?_
          refine s_iadd C dX10_figure_70 (by omega) (fun z38 tz38 => ?_)
          refine s_put (k := 64) C y71 fw_X10_324 fp_9_64 rfl dX10_figure_71 ?_
          refine s_iload_n C dX10_figure_74 rfl ?_
          exact s_iret C X dX10_figure_75 ⟨(Fr.sV (Fr.sV Fr.rf (Or.inr (by decide))) (Or.inr (by decide))), by show (Int32.toInt z27 = 1 ∧ Int32.toInt z38 = _ ∨ Int32.toInt z27 = 0 ∧ Int32.toInt z38 = _ ∧ _ ∧ Int32.toInt z38 ≤ _); omega, by omega⟩
      · refine s_iconst C dX10_figure_37 (by decide) (fun z39 tz39 => ?_)
        refine s_goto (tgt := 52) C dX10_figure_38 (by decide) ?_
        refine s_istore_n C dX10_figure_52 (by decide) (Nat.le_of_ble_eq_true rfl) rfl ?_
        show WP E ad 53 [some (.ref (ad 71)), some (.int z39)] [] (sV σ 71 65 z27)
        refine s_aload_n C dX10_figure_53 rfl ?_
        refine s_dup C dX10_figure_54 rfl ?_
        refine s_get (k := 64) (x := (σ.1 71 64)) C y71 fw_X10_324 rfl rfl dX10_figure_55 ?_
        refine s_aload_n C dX10_figure_58 rfl ?_
        refine s_get (k := 65) (x := z27) C y71 fw_X10_321 rfl rfl dX10_figure_59 ?_
        refine s_if_eq (tgt := 69) C dX10_figure_62 (by decide) (fun q40 => ?_) (fun q40 => ?_)
        · refine s_iconst C dX10_figure_69 (by decide) (fun z41 tz41 => ?_)
          refine s_iadd C dX10_figure_70 (by omega) (fun z42 tz42 => ?_)
          refine s_put (k := 64) C y71 fw_X10_324 fp_9_64 rfl dX10_figure_71 ?_
          refine s_iload_n C dX10_figure_74 rfl ?_
          exact s_iret C X dX10_figure_75 ⟨(Fr.sV (Fr.sV Fr.rf (Or.inr (by decide))) (Or.inr (by decide))), by show (Int32.toInt z27 = 1 ∧ Int32.toInt z42 = _ ∨ Int32.toInt z27 = 0 ∧ Int32.toInt z42 = _ ∧ _ ∧ Int32.toInt z42 ≤ _); omega, by omega⟩
        · refine s_iconst C dX10_figure_65 (by decide) (fun z43 tz43 => ?_)
          refine s_goto (tgt := 70) C dX10_figure_66 (by decide) ?_
          refine s_iadd C dX10_figure_70 (by omega) (fun z44 tz44 => ?_)
          refine s_put (k := 64) C y71 fw_X10_324 fp_9_64 rfl dX10_figure_71 ?_
          refine s_iload_n C dX10_figure_74 rfl ?_
          exact s_iret C X dX10_figure_75 ⟨(Fr.sV (Fr.sV Fr.rf (Or.inr (by decide))) (Or.inr (by decide))), by show (Int32.toInt z27 = 1 ∧ Int32.toInt z44 = _ ∨ Int32.toInt z27 = 0 ∧ Int32.toInt z44 = _ ∧ _ ∧ Int32.toInt z44 ≤ _); omega, by omega⟩
    · refine s_iconst C dX10_figure_22 (by decide) (fun z45 tz45 => ?_)
      refine s_goto (tgt := 27) C dX10_figure_23 (by decide) ?_
      refine s_putz (k := 65) C y71 fw_X10_321 fp_9_65 rfl (by omega) dX10_figure_27 ?_
      refine s_aload_n C dX10_figure_30 rfl ?_
      refine s_get (k := 65) (x := z45) C y71 fw_X10_321 rfl rfl dX10_figure_31 ?_
      refine s_if_eq (tgt := 41) C dX10_figure_34 (by decide) (fun q46 => ?_) (fun q46 => ?_)
      · refine s_aload_n C dX10_figure_41 rfl ?_
        refine s_aload_n C dX10_figure_42 rfl ?_
        refine s_get (k := 64) (x := (σ.1 71 64)) C y71 fw_X10_324 rfl rfl dX10_figure_43 ?_
        refine s_callVI (st := []) C (c_X10_tapeAt l ad (sV σ 71 65 z45) (σ.1 71 64) (by show 0 ≤ Int32.toInt (σ.1 71 64); omega) (by show 0 ≤ Int32.toInt (σ.1 71 17) ∧ Int32.toInt (σ.1 71 17) ≤ 60; omega)) cv_X10_254 y71 rfl rfl rfl ⟨by decide, by decide⟩ (Nat.le_of_ble_eq_true rfl) dX10_figure_46 ?_
        intro r47 τ48 h49
        obtain ⟨eh49, h49⟩ := h49; replace eh49 := eh49.symm; subst eh49
        have ah49 : Int32.toInt (σ.1 71 64) < Int32.toInt (σ.1 71 17) → Int32.toInt r47 = Int32.toInt (σ.1 86 ((σ.1 71 64).toNatClampNeg)) := fun q => congrArg Int32.toInt (h49.1 q)
        have bh49 : Int32.toInt (σ.1 71 17) ≤ Int32.toInt (σ.1 71 64) → Int32.toInt r47 = -1 := h49.2
        clear h49
        refine s_bipush C dX10_figure_49 (by decide) (fun z50 tz50 => ?_)
        refine s_isub C dX10_figure_51 (by omega) (fun z51 tz51 => ?_)
        refine s_istore_n C dX10_figure_52 (by decide) (Nat.le_of_ble_eq_true rfl) rfl ?_
        show WP E ad 53 [some (.ref (ad 71)), some (.int z51)] [] (sV σ 71 65 z45)
        refine s_aload_n C dX10_figure_53 rfl ?_
        refine s_dup C dX10_figure_54 rfl ?_
        refine s_get (k := 64) (x := (σ.1 71 64)) C y71 fw_X10_324 rfl rfl dX10_figure_55 ?_
        refine s_aload_n C dX10_figure_58 rfl ?_
        refine s_get (k := 65) (x := z45) C y71 fw_X10_321 rfl rfl dX10_figure_59 ?_
        refine s_if_eq (tgt := 69) C dX10_figure_62 (by decide) (fun q52 => ?_) (fun q52 => ?_)
        · refine s_iconst C dX10_figure_69 (by decide) (fun z53 tz53 => ?_)
          refine s_iadd C dX10_figure_70 (by omega) (fun z54 tz54 => ?_)
          refine s_put (k := 64) C y71 fw_X10_324 fp_9_64 rfl dX10_figure_71 ?_
          refine s_iload_n C dX10_figure_74 rfl ?_
          exact s_iret C X dX10_figure_75 ⟨(Fr.sV (Fr.sV Fr.rf (Or.inr (by decide))) (Or.inr (by decide))), by show (Int32.toInt z45 = 1 ∧ Int32.toInt z54 = _ ∨ Int32.toInt z45 = 0 ∧ Int32.toInt z54 = _ ∧ _ ∧ Int32.toInt z54 ≤ _); omega, by omega⟩
        · refine s_iconst C dX10_figure_65 (by decide) (fun z55 tz55 => ?_)
          refine s_goto (tgt := 70) C dX10_figure_66 (by decide) ?_
          refine s_iadd C dX10_figure_70 (by omega) (fun z56 tz56 => ?_)
          refine s_put (k := 64) C y71 fw_X10_324 fp_9_64 rfl dX10_figure_71 ?_
          refine s_iload_n C dX10_figure_74 rfl ?_
          exact s_iret C X dX10_figure_75 ⟨(Fr.sV (Fr.sV Fr.rf (Or.inr (by decide))) (Or.inr (by decide))), by show (Int32.toInt z45 = 1 ∧ Int32.toInt z56 = _ ∨ Int32.toInt z45 = 0 ∧ Int32.toInt z56 = _ ∧ _ ∧ Int32.toInt z56 ≤ _); omega, by omega⟩
      · refine s_iconst C dX10_figure_37 (by decide) (fun z57 tz57 => ?_)
        refine s_goto (tgt := 52) C dX10_figure_38 (by decide) ?_
        refine s_istore_n C dX10_figure_52 (by decide) (Nat.le_of_ble_eq_true rfl) rfl ?_
        show WP E ad 53 [some (.ref (ad 71)), some (.int z57)] [] (sV σ 71 65 z45)
        refine s_aload_n C dX10_figure_53 rfl ?_
        refine s_dup C dX10_figure_54 rfl ?_
        refine s_get (k := 64) (x := (σ.1 71 64)) C y71 fw_X10_324 rfl rfl dX10_figure_55 ?_
        refine s_aload_n C dX10_figure_58 rfl ?_
        refine s_get (k := 65) (x := z45) C y71 fw_X10_321 rfl rfl dX10_figure_59 ?_
        refine s_if_eq (tgt := 69) C dX10_figure_62 (by decide) (fun q58 => ?_) (fun q58 => ?_)
        · refine s_iconst C dX10_figure_69 (by decide) (fun z59 tz59 => ?_)
          refine s_iadd C dX10_figure_70 (by omega) (fun z60 tz60 => ?_)
          refine s_put (k := 64) C y71 fw_X10_324 fp_9_64 rfl dX10_figure_71 ?_
          refine s_iload_n C dX10_figure_74 rfl ?_
          exact s_iret C X dX10_figure_75 ⟨(Fr.sV (Fr.sV Fr.rf (Or.inr (by decide))) (Or.inr (by decide))), by show (Int32.toInt z45 = 1 ∧ Int32.toInt z60 = _ ∨ Int32.toInt z45 = 0 ∧ Int32.toInt z60 = _ ∧ _ ∧ Int32.toInt z60 ≤ _); omega, by omega⟩
        · refine s_iconst C dX10_figure_65 (by decide) (fun z61 tz61 => ?_)
          refine s_goto (tgt := 70) C dX10_figure_66 (by decide) ?_
          refine s_iadd C dX10_figure_70 (by omega) (fun z62 tz62 => ?_)
          refine s_put (k := 64) C y71 fw_X10_324 fp_9_64 rfl dX10_figure_71 ?_
          refine s_iload_n C dX10_figure_74 rfl ?_
          exact s_iret C X dX10_figure_75 ⟨(Fr.sV (Fr.sV Fr.rf (Or.inr (by decide))) (Or.inr (by decide))), by show (Int32.toInt z45 = 1 ∧ Int32.toInt z62 = _ ∨ Int32.toInt z45 = 0 ∧ Int32.toInt z62 = _ ∧ _ ∧ Int32.toInt z62 ≤ _); omega, by omega⟩
set_option maxRecDepth 100000 in
theorem E_st178 (l : Launch) (ad : Nat → Nat) (E : Ev) (σ : Sg) (htp : 0 ≤ (σ.1 71 17).toInt ∧ (σ.1 71 17).toInt ≤ 60) (hpl : 0 ≤ (σ.1 71 64).toInt ∧ (σ.1 71 64).toInt ≤ (σ.1 71 17).toInt) (hba : (σ.1 71 65).toInt = 0 ∨ (σ.1 71 65).toInt = 1) (hst : 0 ≤ (σ.1 71 59).toInt ∧ 6 * (σ.1 71 59).toInt ≤ (σ.1 71 64).toInt) (c p m ls v : Int32) (τ : Sg) (hv : 0 ≤ v.toInt ∧ v.toInt ≤ 99) (C : Cx E l (rmk 3) 6 cX10_statement RX10) (X : Rx E ad none (oV (fun τ => Fr [117, 118, 119, 120] [(71, 64), (71, 65), (71, 59)] σ τ ∧ 0 ≤ (τ.1 71 64).toInt ∧ (τ.1 71 64).toInt ≤ (σ.1 71 17).toInt ∧ ((τ.1 71 65).toInt = 1 ∧ (τ.1 71 59).toInt = (σ.1 71 59).toInt ∨ (τ.1 71 65).toInt = 0 ∧ (τ.1 71 59).toInt = (σ.1 71 59).toInt + 1 ∧ (σ.1 71 64).toInt + 5 ≤ (τ.1 71 64).toInt))))  (kF : Fr [] [(71, 64), (71, 65)] σ τ) (hb : (τ.1 71 65).toInt = 0 ∨ (τ.1 71 65).toInt = 1) (hq : (σ.1 71 64).toInt ≤ (τ.1 71 64).toInt ∧ (τ.1 71 64).toInt ≤ (σ.1 71 17).toInt) (hm : (τ.1 71 65).toInt = 0 → (σ.1 71 64).toInt + 5 ≤ (τ.1 71 64).toInt) : WP E ad 178 [some (.ref (ad 71)), some (.int c), some (.int p), some (.int m), some (.int ls), some (.int v)] [] τ := by
  have f17 : (τ.1 71 17).toInt = (σ.1 71 17).toInt := congrArg Int32.toInt (kF.f 71 17 (by decide) (by decide))
  have f59 : (τ.1 71 59).toInt = (σ.1 71 59).toInt := congrArg Int32.toInt (kF.f 71 59 (by decide) (by decide))
  refine s_aload_n C dX10_statement_178 rfl ?_
  refine s_get (k := 65) (x := (τ.1 71 65)) C y71 fw_X10_321 rfl rfl dX10_statement_179 ?_
  refine s_if_ne (tgt := 247) C dX10_statement_182 (by decide) (fun q1 => ?_) (fun q1 => ?_)
  · exact s_vret C X dX10_statement_247 ⟨(Fr.tr Fr.rf (Fr.mo kF (by decide) (by decide))), by show 0 ≤ Int32.toInt (τ.1 71 64); omega, by show Int32.toInt (τ.1 71 64) ≤ _; omega, by show (Int32.toInt (τ.1 71 65) = 1 ∧ Int32.toInt (τ.1 71 59) = _ ∨ Int32.toInt (τ.1 71 65) = 0 ∧ Int32.toInt (τ.1 71 59) = _ ∧ _ ≤ Int32.toInt (τ.1 71 64)); omega⟩
  · refine s_aload_n C dX10_statement_185 rfl ?_
    refine s_getr (k := 60) (j := 117) C y71 fw_X10_153 rfl dX10_statement_186 ?_
    refine s_aload_n C dX10_statement_189 rfl ?_
    refine s_get (k := 59) (x := (τ.1 71 59)) C y71 fw_X10_333 rfl rfl dX10_statement_190 ?_
    refine s_iload_n C dX10_statement_193 rfl ?_
    refine s_iast C y117 (by omega) dX10_statement_194 ?_
    refine s_aload_n C dX10_statement_195 rfl ?_
    refine s_getr (k := 61) (j := 118) C y71 fw_X10_156 rfl dX10_statement_196 ?_
    refine s_aload_n C dX10_statement_199 rfl ?_
    refine s_get (k := 59) (x := (τ.1 71 59)) C y71 fw_X10_333 rfl rfl dX10_statement_200 ?_
    refine s_iload_n C dX10_statement_203 rfl ?_
    refine s_iast C y118 (by omega) dX10_statement_204 ?_
    refine s_aload_n C dX10_statement_205 rfl ?_
    refine s_getr (k := 62) (j := 119) C y71 fw_X10_159 rfl dX10_statement_206 ?_
    refine s_aload_n C dX10_statement_209 rfl ?_
    refine s_get (k := 59) (x := (τ.1 71 59)) C y71 fw_X10_333 rfl rfl dX10_statement_210 ?_
    refine s_iload_n C dX10_statement_213 rfl ?_
    refine s_iast C y119 (by omega) dX10_statement_214 ?_
    refine s_aload_n C dX10_statement_215 rfl ?_
    refine s_getr (k := 63) (j := 120) C y71 fw_X10_162 rfl dX10_statement_216 ?_
    refine s_aload_n C dX10_statement_219 rfl ?_
    refine s_get (k := 59) (x := (τ.1 71 59)) C y71 fw_X10_333 rfl rfl dX10_statement_220 ?_
    refine s_iload C dX10_statement_223 rfl ?_
    refine s_if_eq (tgt := 234) C dX10_statement_225 (by decide) (fun q2 => ?_) (fun q2 => ?_)
    · refine s_iload C dX10_statement_234 rfl ?_
      refine s_iast C y120 (by omega) dX10_statement_236 ?_
      refine s_aload_n C dX10_statement_237 rfl ?_
      refine s_dup C dX10_statement_238 rfl ?_
      refine s_get (k := 59) (x := (τ.1 71 59)) C y71 fw_X10_333 rfl rfl dX10_statement_239 ?_
      refine s_iconst C dX10_statement_242 (by decide) (fun z3 tz3 => ?_)
      refine s_iadd C dX10_statement_243 (by omega) (fun z4 tz4 => ?_)
      refine s_put (k := 59) C y71 fw_X10_333 fp_9_59 rfl dX10_statement_244 ?_
      exact s_vret C X dX10_statement_247 ⟨(Fr.sV (Fr.sV (Fr.sV (Fr.sV (Fr.sV (Fr.tr Fr.rf (Fr.mo kF (by decide) (by decide))) (Or.inl (by decide))) (Or.inl (by decide))) (Or.inl (by decide))) (Or.inl (by decide))) (Or.inr (by decide))), by show 0 ≤ Int32.toInt (τ.1 71 64); omega, by show Int32.toInt (τ.1 71 64) ≤ _; omega, by show (Int32.toInt (τ.1 71 65) = 1 ∧ Int32.toInt z4 = _ ∨ Int32.toInt (τ.1 71 65) = 0 ∧ Int32.toInt z4 = _ ∧ _ ≤ Int32.toInt (τ.1 71 64)); omega⟩
    · refine s_iload C dX10_statement_228 rfl ?_
      refine s_ineg C dX10_statement_230 (by omega) (fun z5 tz5 => ?_)
      refine s_goto (tgt := 236) C dX10_statement_231 (by decide) ?_
      refine s_iast C y120 (by omega) dX10_statement_236 ?_
      refine s_aload_n C dX10_statement_237 rfl ?_
      refine s_dup C dX10_statement_238 rfl ?_
      refine s_get (k := 59) (x := (τ.1 71 59)) C y71 fw_X10_333 rfl rfl dX10_statement_239 ?_
      refine s_iconst C dX10_statement_242 (by decide) (fun z6 tz6 => ?_)
      refine s_iadd C dX10_statement_243 (by omega) (fun z7 tz7 => ?_)
      refine s_put (k := 59) C y71 fw_X10_333 fp_9_59 rfl dX10_statement_244 ?_
      exact s_vret C X dX10_statement_247 ⟨(Fr.sV (Fr.sV (Fr.sV (Fr.sV (Fr.sV (Fr.tr Fr.rf (Fr.mo kF (by decide) (by decide))) (Or.inl (by decide))) (Or.inl (by decide))) (Or.inl (by decide))) (Or.inl (by decide))) (Or.inr (by decide))), by show 0 ≤ Int32.toInt (τ.1 71 64); omega, by show Int32.toInt (τ.1 71 64) ≤ _; omega, by show (Int32.toInt (τ.1 71 65) = 1 ∧ Int32.toInt z7 = _ ∨ Int32.toInt (τ.1 71 65) = 0 ∧ Int32.toInt z7 = _ ∧ _ ≤ Int32.toInt (τ.1 71 64)); omega⟩
set_option maxRecDepth 100000 in
theorem E_st120 (l : Launch) (ad : Nat → Nat) (E : Ev) (σ : Sg) (htp : 0 ≤ (σ.1 71 17).toInt ∧ (σ.1 71 17).toInt ≤ 60) (hpl : 0 ≤ (σ.1 71 64).toInt ∧ (σ.1 71 64).toInt ≤ (σ.1 71 17).toInt) (hba : (σ.1 71 65).toInt = 0 ∨ (σ.1 71 65).toInt = 1) (hst : 0 ≤ (σ.1 71 59).toInt ∧ 6 * (σ.1 71 59).toInt ≤ (σ.1 71 64).toInt) (c p m ls : Int32) (τ : Sg) (hl : ls.toInt = 0 ∨ ls.toInt = 1) (hl2 : ls.toInt = 1 → (τ.1 71 64).toInt < (σ.1 71 17).toInt) (C : Cx E l (rmk 3) 6 cX10_statement RX10) (X : Rx E ad none (oV (fun τ => Fr [117, 118, 119, 120] [(71, 64), (71, 65), (71, 59)] σ τ ∧ 0 ≤ (τ.1 71 64).toInt ∧ (τ.1 71 64).toInt ≤ (σ.1 71 17).toInt ∧ ((τ.1 71 65).toInt = 1 ∧ (τ.1 71 59).toInt = (σ.1 71 59).toInt ∨ (τ.1 71 65).toInt = 0 ∧ (τ.1 71 59).toInt = (σ.1 71 59).toInt + 1 ∧ (σ.1 71 64).toInt + 5 ≤ (τ.1 71 64).toInt))))  (kF : Fr [] [(71, 64), (71, 65)] σ τ) (hb : (τ.1 71 65).toInt = 0 ∨ (τ.1 71 65).toInt = 1) (hq : (σ.1 71 64).toInt ≤ (τ.1 71 64).toInt ∧ (τ.1 71 64).toInt ≤ (σ.1 71 17).toInt) (hm : (τ.1 71 65).toInt = 0 → (σ.1 71 64).toInt + 4 ≤ (τ.1 71 64).toInt) : WP E ad 120 [some (.ref (ad 71)), some (.int c), some (.int p), some (.int m), some (.int ls), none] [] τ := by
  have f17 : (τ.1 71 17).toInt = (σ.1 71 17).toInt := congrArg Int32.toInt (kF.f 71 17 (by decide) (by decide))
  have f59 : (τ.1 71 59).toInt = (σ.1 71 59).toInt := congrArg Int32.toInt (kF.f 71 59 (by decide) (by decide))
  refine s_aload_n C dX10_statement_120 rfl ?_
  refine s_dup C dX10_statement_121 rfl ?_
  refine s_get (k := 64) (x := (τ.1 71 64)) C y71 fw_X10_324 rfl rfl dX10_statement_122 ?_
  refine s_iload C dX10_statement_125 rfl ?_
  refine s_if_eq (tgt := 134) C dX10_statement_127 (by decide) (fun q1 => ?_) (fun q1 => ?_)
  · refine s_iconst C dX10_statement_134 (by decide) (fun z2 tz2 => ?_)
    refine s_iadd C dX10_statement_135 (by omega) (fun z3 tz3 => ?_)
    refine s_put (k := 64) C y71 fw_X10_324 fp_9_64 rfl dX10_statement_136 ?_
    refine s_aload_n C dX10_statement_139 rfl ?_
    refine s_callVI (st := []) C (c_X10_figure l ad (sV τ 71 64 z3) (by show 0 ≤ Int32.toInt (τ.1 71 17) ∧ Int32.toInt (τ.1 71 17) ≤ 60; omega) (by show 0 ≤ Int32.toInt z3 ∧ Int32.toInt z3 ≤ Int32.toInt (τ.1 71 17); omega) (by show Int32.toInt (τ.1 71 65) = 0 ∨ Int32.toInt (τ.1 71 65) = 1; omega)) cv_X10_330 y71 rfl rfl rfl ⟨by decide, by decide⟩ (Nat.le_of_ble_eq_true rfl) dX10_statement_140 ?_
    intro r4 τ5 h6
    have fh6 : Int32.toInt (τ5.1 71 17) = Int32.toInt (τ.1 71 17) := congrArg Int32.toInt (h6.1.f 71 17 (by decide) (by decide))
    have gh6 : (Int32.toInt (τ5.1 71 65) = 1 ∧ Int32.toInt (τ5.1 71 64) = Int32.toInt z3 ∨ Int32.toInt (τ5.1 71 65) = 0 ∧ Int32.toInt (τ5.1 71 64) = Int32.toInt z3 + 1 ∧ Int32.toInt (τ.1 71 65) = 0 ∧ Int32.toInt (τ5.1 71 64) ≤ Int32.toInt (τ.1 71 17)) := h6.2.1
    have kh6 := h6.2.2
    refine s_istore C dX10_statement_143 (by decide) (Nat.le_of_ble_eq_true rfl) rfl ?_
    show WP E ad 145 [some (.ref (ad 71)), some (.int c), some (.int p), some (.int m), some (.int ls), some (.int r4)] [] τ5
    refine s_aload_n C dX10_statement_145 rfl ?_
    refine s_get (k := 65) (x := (τ5.1 71 65)) C y71 fw_X10_321 rfl rfl dX10_statement_146 ?_
    refine s_if_ne (tgt := 178) C dX10_statement_149 (by decide) (fun q7 => ?_) (fun q7 => ?_)
    · exact E_st178 l ad E σ htp hpl hba hst c p m ls r4 τ5 (by omega) C X (Fr.tr (Fr.sV (Fr.tr Fr.rf (Fr.mo kF (by decide) (by decide))) (Or.inr (by decide))) (Fr.mo h6.1 (by decide) (by decide))) (by show Int32.toInt (τ5.1 71 65) = 0 ∨ Int32.toInt (τ5.1 71 65) = 1; omega) (by show _ ≤ Int32.toInt (τ5.1 71 64) ∧ Int32.toInt (τ5.1 71 64) ≤ _; omega) (fun q => by replace q : Int32.toInt (τ5.1 71 65) = 0 := q; show _ ≤ Int32.toInt (τ5.1 71 64); omega)
    · refine s_aload_n C dX10_statement_152 rfl ?_
      refine s_aload_n C dX10_statement_153 rfl ?_
      refine s_get (k := 64) (x := (τ5.1 71 64)) C y71 fw_X10_324 rfl rfl dX10_statement_154 ?_
      refine s_callVI (st := []) C (c_X10_tapeAt l ad τ5 (τ5.1 71 64) (by show 0 ≤ Int32.toInt (τ5.1 71 64); omega) (by show 0 ≤ Int32.toInt (τ5.1 71 17) ∧ Int32.toInt (τ5.1 71 17) ≤ 60; omega)) cv_X10_254 y71 rfl rfl rfl ⟨by decide, by decide⟩ (Nat.le_of_ble_eq_true rfl) dX10_statement_157 ?_
      intro r8 τ9 h10
      obtain ⟨eh10, h10⟩ := h10; replace eh10 := eh10.symm; subst eh10
      have ah10 : Int32.toInt (τ5.1 71 64) < Int32.toInt (τ5.1 71 17) → Int32.toInt r8 = Int32.toInt (τ5.1 86 ((τ5.1 71 64).toNatClampNeg)) := fun q => congrArg Int32.toInt (h10.1 q)
      have bh10 : Int32.toInt (τ5.1 71 17) ≤ Int32.toInt (τ5.1 71 64) → Int32.toInt r8 = -1 := h10.2
      clear h10
      refine s_callSI (st := []) C (c_X10_isFigure l ad τ5 r8 ) cv_X10_257 rfl rfl ⟨by decide, by decide⟩ (Nat.le_of_ble_eq_true rfl) dX10_statement_160 ?_
      intro r11 τ12 h13
      obtain ⟨eh13, h13⟩ := h13; replace eh13 := eh13.symm; subst eh13
      refine s_if_eq (tgt := 178) C dX10_statement_163 (by decide) (fun q14 => ?_) (fun q14 => ?_)
      · exact E_st178 l ad E σ htp hpl hba hst c p m ls r4 τ5 (by omega) C X (Fr.tr (Fr.sV (Fr.tr Fr.rf (Fr.mo kF (by decide) (by decide))) (Or.inr (by decide))) (Fr.mo h6.1 (by decide) (by decide))) (by show Int32.toInt (τ5.1 71 65) = 0 ∨ Int32.toInt (τ5.1 71 65) = 1; omega) (by show _ ≤ Int32.toInt (τ5.1 71 64) ∧ Int32.toInt (τ5.1 71 64) ≤ _; omega) (fun q => by replace q : Int32.toInt (τ5.1 71 65) = 0 := q; show _ ≤ Int32.toInt (τ5.1 71 64); omega)
      · refine s_bipush C dX10_statement_166 (by decide) (fun z15 tz15 => ?_)
        refine s_iload C dX10_statement_168 rfl ?_
        refine s_imulL C tz15 dX10_statement_170 (by omega) (fun z16 tz16 => ?_)
        refine s_aload_n C dX10_statement_171 rfl ?_
        refine s_callVI (st := [.int z16]) C (c_X10_figure l ad τ5 (by show 0 ≤ Int32.toInt (τ5.1 71 17) ∧ Int32.toInt (τ5.1 71 17) ≤ 60; omega) (by show 0 ≤ Int32.toInt (τ5.1 71 64) ∧ Int32.toInt (τ5.1 71 64) ≤ Int32.toInt (τ5.1 71 17); omega) (by show Int32.toInt (τ5.1 71 65) = 0 ∨ Int32.toInt (τ5.1 71 65) = 1; omega)) cv_X10_330 y71 rfl rfl rfl ⟨by decide, by decide⟩ (Nat.le_of_ble_eq_true rfl) dX10_statement_172 ?_
        intro r17 τ18 h19
        have fh19 : Int32.toInt (τ18.1 71 17) = Int32.toInt (τ5.1 71 17) := congrArg Int32.toInt (h19.1.f 71 17 (by decide) (by decide))
        have gh19 : (Int32.toInt (τ18.1 71 65) = 1 ∧ Int32.toInt (τ18.1 71 64) = Int32.toInt (τ5.1 71 64) ∨ Int32.toInt (τ18.1 71 65) = 0 ∧ Int32.toInt (τ18.1 71 64) = Int32.toInt (τ5.1 71 64) + 1 ∧ Int32.toInt (τ5.1 71 65) = 0 ∧ Int32.toInt (τ18.1 71 64) ≤ Int32.toInt (τ5.1 71 17)) := h19.2.1
        have kh19 := h19.2.2
        refine s_iadd C dX10_statement_175 (by omega) (fun z20 tz20 => ?_)
        refine s_istore C dX10_statement_176 (by decide) (Nat.le_of_ble_eq_true rfl) rfl ?_
        show WP E ad 178 [some (.ref (ad 71)), some (.int c), some (.int p), some (.int m), some (.int ls), some (.int z20)] [] τ18
        exact E_st178 l ad E σ htp hpl hba hst c p m ls z20 τ18 (by omega) C X (Fr.tr (Fr.tr (Fr.sV (Fr.tr Fr.rf (Fr.mo kF (by decide) (by decide))) (Or.inr (by decide))) (Fr.mo h6.1 (by decide) (by decide))) (Fr.mo h19.1 (by decide) (by decide))) (by show Int32.toInt (τ18.1 71 65) = 0 ∨ Int32.toInt (τ18.1 71 65) = 1; omega) (by show _ ≤ Int32.toInt (τ18.1 71 64) ∧ Int32.toInt (τ18.1 71 64) ≤ _; omega) (fun q => by replace q : Int32.toInt (τ18.1 71 65) = 0 := q; show _ ≤ Int32.toInt (τ18.1 71 64); omega)
  · refine s_iconst C dX10_statement_130 (by decide) (fun z21 tz21 => ?_)
    refine s_goto (tgt := 135) C dX10_statement_131 (by decide) ?_
    refine s_iadd C dX10_statement_135 (by omega) (fun z22 tz22 => ?_)
    refine s_put (k := 64) C y71 fw_X10_324 fp_9_64 rfl dX10_statement_136 ?_
    refine s_aload_n C dX10_statement_139 rfl ?_
    refine s_callVI (st := []) C (c_X10_figure l ad (sV τ 71 64 z22) (by show 0 ≤ Int32.toInt (τ.1 71 17) ∧ Int32.toInt (τ.1 71 17) ≤ 60; omega) (by show 0 ≤ Int32.toInt z22 ∧ Int32.toInt z22 ≤ Int32.toInt (τ.1 71 17); omega) (by show Int32.toInt (τ.1 71 65) = 0 ∨ Int32.toInt (τ.1 71 65) = 1; omega)) cv_X10_330 y71 rfl rfl rfl ⟨by decide, by decide⟩ (Nat.le_of_ble_eq_true rfl) dX10_statement_140 ?_
    intro r23 τ24 h25
    have fh25 : Int32.toInt (τ24.1 71 17) = Int32.toInt (τ.1 71 17) := congrArg Int32.toInt (h25.1.f 71 17 (by decide) (by decide))
    have gh25 : (Int32.toInt (τ24.1 71 65) = 1 ∧ Int32.toInt (τ24.1 71 64) = Int32.toInt z22 ∨ Int32.toInt (τ24.1 71 65) = 0 ∧ Int32.toInt (τ24.1 71 64) = Int32.toInt z22 + 1 ∧ Int32.toInt (τ.1 71 65) = 0 ∧ Int32.toInt (τ24.1 71 64) ≤ Int32.toInt (τ.1 71 17)) := h25.2.1
    have kh25 := h25.2.2
    refine s_istore C dX10_statement_143 (by decide) (Nat.le_of_ble_eq_true rfl) rfl ?_
    show WP E ad 145 [some (.ref (ad 71)), some (.int c), some (.int p), some (.int m), some (.int ls), some (.int r23)] [] τ24
    refine s_aload_n C dX10_statement_145 rfl ?_
    refine s_get (k := 65) (x := (τ24.1 71 65)) C y71 fw_X10_321 rfl rfl dX10_statement_146 ?_
    refine s_if_ne (tgt := 178) C dX10_statement_149 (by decide) (fun q26 => ?_) (fun q26 => ?_)
    · exact E_st178 l ad E σ htp hpl hba hst c p m ls r23 τ24 (by omega) C X (Fr.tr (Fr.sV (Fr.tr Fr.rf (Fr.mo kF (by decide) (by decide))) (Or.inr (by decide))) (Fr.mo h25.1 (by decide) (by decide))) (by show Int32.toInt (τ24.1 71 65) = 0 ∨ Int32.toInt (τ24.1 71 65) = 1; omega) (by show _ ≤ Int32.toInt (τ24.1 71 64) ∧ Int32.toInt (τ24.1 71 64) ≤ _; omega) (fun q => by replace q : Int32.toInt (τ24.1 71 65) = 0 := q; show _ ≤ Int32.toInt (τ24.1 71 64); omega)
    · refine s_aload_n C dX10_statement_152 rfl ?_
      refine s_aload_n C dX10_statement_153 rfl ?_
      refine s_get (k := 64) (x := (τ24.1 71 64)) C y71 fw_X10_324 rfl rfl dX10_statement_154 ?_
      refine s_callVI (st := []) C (c_X10_tapeAt l ad τ24 (τ24.1 71 64) (by show 0 ≤ Int32.toInt (τ24.1 71 64); omega) (by show 0 ≤ Int32.toInt (τ24.1 71 17) ∧ Int32.toInt (τ24.1 71 17) ≤ 60; omega)) cv_X10_254 y71 rfl rfl rfl ⟨by decide, by decide⟩ (Nat.le_of_ble_eq_true rfl) dX10_statement_157 ?_
      intro r27 τ28 h29
      obtain ⟨eh29, h29⟩ := h29; replace eh29 := eh29.symm; subst eh29
      have ah29 : Int32.toInt (τ24.1 71 64) < Int32.toInt (τ24.1 71 17) → Int32.toInt r27 = Int32.toInt (τ24.1 86 ((τ24.1 71 64).toNatClampNeg)) := fun q => congrArg Int32.toInt (h29.1 q)
      have bh29 : Int32.toInt (τ24.1 71 17) ≤ Int32.toInt (τ24.1 71 64) → Int32.toInt r27 = -1 := h29.2
      clear h29
      refine s_callSI (st := []) C (c_X10_isFigure l ad τ24 r27 ) cv_X10_257 rfl rfl ⟨by decide, by decide⟩ (Nat.le_of_ble_eq_true rfl) dX10_statement_160 ?_
      intro r30 τ31 h32
      obtain ⟨eh32, h32⟩ := h32; replace eh32 := eh32.symm; subst eh32
      refine s_if_eq (tgt := 178) C dX10_statement_163 (by decide) (fun q33 => ?_) (fun q33 => ?_)
      · exact E_st178 l ad E σ htp hpl hba hst c p m ls r23 τ24 (by omega) C X (Fr.tr (Fr.sV (Fr.tr Fr.rf (Fr.mo kF (by decide) (by decide))) (Or.inr (by decide))) (Fr.mo h25.1 (by decide) (by decide))) (by show Int32.toInt (τ24.1 71 65) = 0 ∨ Int32.toInt (τ24.1 71 65) = 1; omega) (by show _ ≤ Int32.toInt (τ24.1 71 64) ∧ Int32.toInt (τ24.1 71 64) ≤ _; omega) (fun q => by replace q : Int32.toInt (τ24.1 71 65) = 0 := q; show _ ≤ Int32.toInt (τ24.1 71 64); omega)
      · refine s_bipush C dX10_statement_166 (by decide) (fun z34 tz34 => ?_)
        refine s_iload C dX10_statement_168 rfl ?_
        refine s_imulL C tz34 dX10_statement_170 (by omega) (fun z35 tz35 => ?_)
        refine s_aload_n C dX10_statement_171 rfl ?_
        refine s_callVI (st := [.int z35]) C (c_X10_figure l ad τ24 (by show 0 ≤ Int32.toInt (τ24.1 71 17) ∧ Int32.toInt (τ24.1 71 17) ≤ 60; omega) (by show 0 ≤ Int32.toInt (τ24.1 71 64) ∧ Int32.toInt (τ24.1 71 64) ≤ Int32.toInt (τ24.1 71 17); omega) (by show Int32.toInt (τ24.1 71 65) = 0 ∨ Int32.toInt (τ24.1 71 65) = 1; omega)) cv_X10_330 y71 rfl rfl rfl ⟨by decide, by decide⟩ (Nat.le_of_ble_eq_true rfl) dX10_statement_172 ?_
        intro r36 τ37 h38
        have fh38 : Int32.toInt (τ37.1 71 17) = Int32.toInt (τ24.1 71 17) := congrArg Int32.toInt (h38.1.f 71 17 (by decide) (by decide))
        have gh38 : (Int32.toInt (τ37.1 71 65) = 1 ∧ Int32.toInt (τ37.1 71 64) = Int32.toInt (τ24.1 71 64) ∨ Int32.toInt (τ37.1 71 65) = 0 ∧ Int32.toInt (τ37.1 71 64) = Int32.toInt (τ24.1 71 64) + 1 ∧ Int32.toInt (τ24.1 71 65) = 0 ∧ Int32.toInt (τ37.1 71 64) ≤ Int32.toInt (τ24.1 71 17)) := h38.2.1
        have kh38 := h38.2.2
        refine s_iadd C dX10_statement_175 (by omega) (fun z39 tz39 => ?_)
        refine s_istore C dX10_statement_176 (by decide) (Nat.le_of_ble_eq_true rfl) rfl ?_
        show WP E ad 178 [some (.ref (ad 71)), some (.int c), some (.int p), some (.int m), some (.int ls), some (.int z39)] [] τ37
        exact E_st178 l ad E σ htp hpl hba hst c p m ls z39 τ37 (by omega) C X (Fr.tr (Fr.tr (Fr.sV (Fr.tr Fr.rf (Fr.mo kF (by decide) (by decide))) (Or.inr (by decide))) (Fr.mo h25.1 (by decide) (by decide))) (Fr.mo h38.1 (by decide) (by decide))) (by show Int32.toInt (τ37.1 71 65) = 0 ∨ Int32.toInt (τ37.1 71 65) = 1; omega) (by show _ ≤ Int32.toInt (τ37.1 71 64) ∧ Int32.toInt (τ37.1 71 64) ≤ _; omega) (fun q => by replace q : Int32.toInt (τ37.1 71 65) = 0 := q; show _ ≤ Int32.toInt (τ37.1 71 64); omega)
set_option maxRecDepth 100000 in
theorem E_st87 (l : Launch) (ad : Nat → Nat) (E : Ev) (σ : Sg) (htp : 0 ≤ (σ.1 71 17).toInt ∧ (σ.1 71 17).toInt ≤ 60) (hpl : 0 ≤ (σ.1 71 64).toInt ∧ (σ.1 71 64).toInt ≤ (σ.1 71 17).toInt) (hba : (σ.1 71 65).toInt = 0 ∨ (σ.1 71 65).toInt = 1) (hst : 0 ≤ (σ.1 71 59).toInt ∧ 6 * (σ.1 71 59).toInt ≤ (σ.1 71 64).toInt) (c p m : Int32) (τ : Sg) (C : Cx E l (rmk 3) 6 cX10_statement RX10) (X : Rx E ad none (oV (fun τ => Fr [117, 118, 119, 120] [(71, 64), (71, 65), (71, 59)] σ τ ∧ 0 ≤ (τ.1 71 64).toInt ∧ (τ.1 71 64).toInt ≤ (σ.1 71 17).toInt ∧ ((τ.1 71 65).toInt = 1 ∧ (τ.1 71 59).toInt = (σ.1 71 59).toInt ∨ (τ.1 71 65).toInt = 0 ∧ (τ.1 71 59).toInt = (σ.1 71 59).toInt + 1 ∧ (σ.1 71 64).toInt + 5 ≤ (τ.1 71 64).toInt))))  (kF : Fr [] [(71, 64), (71, 65)] σ τ) (hb : (τ.1 71 65).toInt = 0 ∨ (τ.1 71 65).toInt = 1) (hq : (σ.1 71 64).toInt ≤ (τ.1 71 64).toInt ∧ (τ.1 71 64).toInt ≤ (σ.1 71 17).toInt) (hm : (τ.1 71 65).toInt = 0 → (σ.1 71 64).toInt + 3 ≤ (τ.1 71 64).toInt) : WP E ad 87 [some (.ref (ad 71)), some (.int c), some (.int p), some (.int m), none, none] [] τ := by
  have f17 : (τ.1 71 17).toInt = (σ.1 71 17).toInt := congrArg Int32.toInt (kF.f 71 17 (by decide) (by decide))
  have f59 : (τ.1 71 59).toInt = (σ.1 71 59).toInt := congrArg Int32.toInt (kF.f 71 59 (by decide) (by decide))
  refine s_aload_n C dX10_statement_87 rfl ?_
  refine s_bipush C dX10_statement_88 (by decide) (fun z1 tz1 => ?_)
  refine s_callVV (st := []) C (c_X10_wants l ad τ z1 (by omega) (by show 0 ≤ Int32.toInt (τ.1 71 17) ∧ Int32.toInt (τ.1 71 17) ≤ 60; omega) (by show 0 ≤ Int32.toInt (τ.1 71 64) ∧ Int32.toInt (τ.1 71 64) ≤ Int32.toInt (τ.1 71 17); omega) (by show Int32.toInt (τ.1 71 65) = 0 ∨ Int32.toInt (τ.1 71 65) = 1; omega)) cv_X10_327 y71 rfl rfl rfl ⟨by decide, by decide⟩ (Nat.le_of_ble_eq_true rfl) dX10_statement_90 ?_
  intro τ3 h4
  have fh4 : Int32.toInt (τ3.1 71 17) = Int32.toInt (τ.1 71 17) := congrArg Int32.toInt (h4.1.f 71 17 (by decide) (by decide))
  have gh4 : (Int32.toInt (τ3.1 71 65) = 1 ∧ Int32.toInt (τ3.1 71 64) = Int32.toInt (τ.1 71 64) ∨ Int32.toInt (τ3.1 71 65) = 0 ∧ Int32.toInt (τ3.1 71 64) = Int32.toInt (τ.1 71 64) + 1 ∧ Int32.toInt (τ.1 71 65) = 0 ∧ Int32.toInt (τ3.1 71 64) ≤ Int32.toInt (τ.1 71 17)) := h4.2
  refine s_aload_n C dX10_statement_93 rfl ?_
  refine s_get (k := 65) (x := (τ3.1 71 65)) C y71 fw_X10_321 rfl rfl dX10_statement_94 ?_
  refine s_if_ne (tgt := 117) C dX10_statement_97 (by decide) (fun q5 => ?_) (fun q5 => ?_)
  · refine s_iconst C dX10_statement_117 (by decide) (fun z6 tz6 => ?_)
    refine s_istore C dX10_statement_118 (by decide) (Nat.le_of_ble_eq_true rfl) rfl ?_
    show WP E ad 120 [some (.ref (ad 71)), some (.int c), some (.int p), some (.int m), some (.int z6), none] [] τ3
    exact E_st120 l ad E σ htp hpl hba hst c p m z6 τ3 (by omega) (fun q => by show Int32.toInt (τ3.1 71 64) < Int32.toInt (σ.1 71 17); omega) C X (Fr.tr (Fr.tr Fr.rf (Fr.mo kF (by decide) (by decide))) (Fr.mo h4.1 (by decide) (by decide))) (by show Int32.toInt (τ3.1 71 65) = 0 ∨ Int32.toInt (τ3.1 71 65) = 1; omega) (by show _ ≤ Int32.toInt (τ3.1 71 64) ∧ Int32.toInt (τ3.1 71 64) ≤ _; omega) (fun q => by replace q : Int32.toInt (τ3.1 71 65) = 0 := q; show _ ≤ Int32.toInt (τ3.1 71 64); omega)
  · refine s_aload_n C dX10_statement_100 rfl ?_
    refine s_aload_n C dX10_statement_101 rfl ?_
    refine s_get (k := 64) (x := (τ3.1 71 64)) C y71 fw_X10_324 rfl rfl dX10_statement_102 ?_
    refine s_callVI (st := []) C (c_X10_tapeAt l ad τ3 (τ3.1 71 64) (by show 0 ≤ Int32.toInt (τ3.1 71 64); omega) (by show 0 ≤ Int32.toInt (τ3.1 71 17) ∧ Int32.toInt (τ3.1 71 17) ≤ 60; omega)) cv_X10_254 y71 rfl rfl rfl ⟨by decide, by decide⟩ (Nat.le_of_ble_eq_true rfl) dX10_statement_105 ?_
    intro r7 τ8 h9
    obtain ⟨eh9, h9⟩ := h9; replace eh9 := eh9.symm; subst eh9
    have ah9 : Int32.toInt (τ3.1 71 64) < Int32.toInt (τ3.1 71 17) → Int32.toInt r7 = Int32.toInt (τ3.1 86 ((τ3.1 71 64).toNatClampNeg)) := fun q => congrArg Int32.toInt (h9.1 q)
    have bh9 : Int32.toInt (τ3.1 71 17) ≤ Int32.toInt (τ3.1 71 64) → Int32.toInt r7 = -1 := h9.2
    clear h9
    refine s_bipush C dX10_statement_108 (by decide) (fun z10 tz10 => ?_)
    refine s_icmp_ne (tgt := 117) C dX10_statement_110 (by decide) (fun q11 => ?_) (fun q11 => ?_)
    · refine s_iconst C dX10_statement_117 (by decide) (fun z12 tz12 => ?_)
      refine s_istore C dX10_statement_118 (by decide) (Nat.le_of_ble_eq_true rfl) rfl ?_
      show WP E ad 120 [some (.ref (ad 71)), some (.int c), some (.int p), some (.int m), some (.int z12), none] [] τ3
      exact E_st120 l ad E σ htp hpl hba hst c p m z12 τ3 (by omega) (fun q => by show Int32.toInt (τ3.1 71 64) < Int32.toInt (σ.1 71 17); omega) C X (Fr.tr (Fr.tr Fr.rf (Fr.mo kF (by decide) (by decide))) (Fr.mo h4.1 (by decide) (by decide))) (by show Int32.toInt (τ3.1 71 65) = 0 ∨ Int32.toInt (τ3.1 71 65) = 1; omega) (by show _ ≤ Int32.toInt (τ3.1 71 64) ∧ Int32.toInt (τ3.1 71 64) ≤ _; omega) (fun q => by replace q : Int32.toInt (τ3.1 71 65) = 0 := q; show _ ≤ Int32.toInt (τ3.1 71 64); omega)
    · refine s_iconst C dX10_statement_113 (by decide) (fun z13 tz13 => ?_)
      refine s_goto (tgt := 118) C dX10_statement_114 (by decide) ?_
      refine s_istore C dX10_statement_118 (by decide) (Nat.le_of_ble_eq_true rfl) rfl ?_
      show WP E ad 120 [some (.ref (ad 71)), some (.int c), some (.int p), some (.int m), some (.int z13), none] [] τ3
      exact E_st120 l ad E σ htp hpl hba hst c p m z13 τ3 (by omega) (fun q => by show Int32.toInt (τ3.1 71 64) < Int32.toInt (σ.1 71 17); omega) C X (Fr.tr (Fr.tr Fr.rf (Fr.mo kF (by decide) (by decide))) (Fr.mo h4.1 (by decide) (by decide))) (by show Int32.toInt (τ3.1 71 65) = 0 ∨ Int32.toInt (τ3.1 71 65) = 1; omega) (by show _ ≤ Int32.toInt (τ3.1 71 64) ∧ Int32.toInt (τ3.1 71 64) ≤ _; omega) (fun q => by replace q : Int32.toInt (τ3.1 71 65) = 0 := q; show _ ≤ Int32.toInt (τ3.1 71 64); omega)
set_option maxRecDepth 100000 in
theorem E_st57 (l : Launch) (ad : Nat → Nat) (E : Ev) (σ : Sg) (htp : 0 ≤ (σ.1 71 17).toInt ∧ (σ.1 71 17).toInt ≤ 60) (hpl : 0 ≤ (σ.1 71 64).toInt ∧ (σ.1 71 64).toInt ≤ (σ.1 71 17).toInt) (hba : (σ.1 71 65).toInt = 0 ∨ (σ.1 71 65).toInt = 1) (hst : 0 ≤ (σ.1 71 59).toInt ∧ 6 * (σ.1 71 59).toInt ≤ (σ.1 71 64).toInt) (c : Int32) (τ : Sg) (C : Cx E l (rmk 3) 6 cX10_statement RX10) (X : Rx E ad none (oV (fun τ => Fr [117, 118, 119, 120] [(71, 64), (71, 65), (71, 59)] σ τ ∧ 0 ≤ (τ.1 71 64).toInt ∧ (τ.1 71 64).toInt ≤ (σ.1 71 17).toInt ∧ ((τ.1 71 65).toInt = 1 ∧ (τ.1 71 59).toInt = (σ.1 71 59).toInt ∨ (τ.1 71 65).toInt = 0 ∧ (τ.1 71 59).toInt = (σ.1 71 59).toInt + 1 ∧ (σ.1 71 64).toInt + 5 ≤ (τ.1 71 64).toInt))))  (kF : Fr [] [(71, 64), (71, 65)] σ τ) (hb : (τ.1 71 65).toInt = 0 ∨ (τ.1 71 65).toInt = 1) (hq : (σ.1 71 64).toInt ≤ (τ.1 71 64).toInt ∧ (τ.1 71 64).toInt ≤ (σ.1 71 17).toInt) (hm : (τ.1 71 65).toInt = 0 → (σ.1 71 64).toInt + 1 ≤ (τ.1 71 64).toInt) : WP E ad 57 [some (.ref (ad 71)), some (.int c), none, none, none, none] [] τ := by
  have f17 : (τ.1 71 17).toInt = (σ.1 71 17).toInt := congrArg Int32.toInt (kF.f 71 17 (by decide) (by decide))
  have f59 : (τ.1 71 59).toInt = (σ.1 71 59).toInt := congrArg Int32.toInt (kF.f 71 59 (by decide) (by decide))
  refine s_aload_n C dX10_statement_57 rfl ?_
  refine s_bipush C dX10_statement_58 (by decide) (fun z1 tz1 => ?_)
  refine s_callVV (st := []) C (c_X10_wants l ad τ z1 (by omega) (by show 0 ≤ Int32.toInt (τ.1 71 17) ∧ Int32.toInt (τ.1 71 17) ≤ 60; omega) (by show 0 ≤ Int32.toInt (τ.1 71 64) ∧ Int32.toInt (τ.1 71 64) ≤ Int32.toInt (τ.1 71 17); omega) (by show Int32.toInt (τ.1 71 65) = 0 ∨ Int32.toInt (τ.1 71 65) = 1; omega)) cv_X10_327 y71 rfl rfl rfl ⟨by decide, by decide⟩ (Nat.le_of_ble_eq_true rfl) dX10_statement_60 ?_
  intro τ3 h4
  have fh4 : Int32.toInt (τ3.1 71 17) = Int32.toInt (τ.1 71 17) := congrArg Int32.toInt (h4.1.f 71 17 (by decide) (by decide))
  have gh4 : (Int32.toInt (τ3.1 71 65) = 1 ∧ Int32.toInt (τ3.1 71 64) = Int32.toInt (τ.1 71 64) ∨ Int32.toInt (τ3.1 71 65) = 0 ∧ Int32.toInt (τ3.1 71 64) = Int32.toInt (τ.1 71 64) + 1 ∧ Int32.toInt (τ.1 71 65) = 0 ∧ Int32.toInt (τ3.1 71 64) ≤ Int32.toInt (τ.1 71 17)) := h4.2
  refine s_aload_n C dX10_statement_63 rfl ?_
  refine s_callVI (st := []) C (c_X10_figure l ad τ3 (by show 0 ≤ Int32.toInt (τ3.1 71 17) ∧ Int32.toInt (τ3.1 71 17) ≤ 60; omega) (by show 0 ≤ Int32.toInt (τ3.1 71 64) ∧ Int32.toInt (τ3.1 71 64) ≤ Int32.toInt (τ3.1 71 17); omega) (by show Int32.toInt (τ3.1 71 65) = 0 ∨ Int32.toInt (τ3.1 71 65) = 1; omega)) cv_X10_330 y71 rfl rfl rfl ⟨by decide, by decide⟩ (Nat.le_of_ble_eq_true rfl) dX10_statement_64 ?_
  intro r5 τ6 h7
  have fh7 : Int32.toInt (τ6.1 71 17) = Int32.toInt (τ3.1 71 17) := congrArg Int32.toInt (h7.1.f 71 17 (by decide) (by decide))
  have gh7 : (Int32.toInt (τ6.1 71 65) = 1 ∧ Int32.toInt (τ6.1 71 64) = Int32.toInt (τ3.1 71 64) ∨ Int32.toInt (τ6.1 71 65) = 0 ∧ Int32.toInt (τ6.1 71 64) = Int32.toInt (τ3.1 71 64) + 1 ∧ Int32.toInt (τ3.1 71 65) = 0 ∧ Int32.toInt (τ6.1 71 64) ≤ Int32.toInt (τ3.1 71 17)) := h7.2.1
  have kh7 := h7.2.2
  refine s_istore_n C dX10_statement_67 (by decide) (Nat.le_of_ble_eq_true rfl) rfl ?_
  show WP E ad 68 [some (.ref (ad 71)), some (.int c), some (.int r5), none, none, none] [] τ6
  refine s_iconst C dX10_statement_68 (by decide) (fun z8 tz8 => ?_)
  refine s_istore_n C dX10_statement_69 (by decide) (Nat.le_of_ble_eq_true rfl) rfl ?_
  show WP E ad 70 [some (.ref (ad 71)), some (.int c), some (.int r5), some (.int z8), none, none] [] τ6
  refine s_iload_n C dX10_statement_70 rfl ?_
  refine s_bipush C dX10_statement_71 (by decide) (fun z9 tz9 => ?_)
  refine s_icmp_ne (tgt := 87) C dX10_statement_73 (by decide) (fun q10 => ?_) (fun q10 => ?_)
  · exact E_st87 l ad E σ htp hpl hba hst c r5 z8 τ6  C X (Fr.tr (Fr.tr (Fr.tr Fr.rf (Fr.mo kF (by decide) (by decide))) (Fr.mo h4.1 (by decide) (by decide))) (Fr.mo h7.1 (by decide) (by decide))) (by show Int32.toInt (τ6.1 71 65) = 0 ∨ Int32.toInt (τ6.1 71 65) = 1; omega) (by show _ ≤ Int32.toInt (τ6.1 71 64) ∧ Int32.toInt (τ6.1 71 64) ≤ _; omega) (fun q => by replace q : Int32.toInt (τ6.1 71 65) = 0 := q; show _ ≤ Int32.toInt (τ6.1 71 64); omega)
  · refine s_aload_n C dX10_statement_76 rfl ?_
    refine s_bipush C dX10_statement_77 (by decide) (fun z11 tz11 => ?_)
    refine s_callVV (st := []) C (c_X10_wants l ad τ6 z11 (by omega) (by show 0 ≤ Int32.toInt (τ6.1 71 17) ∧ Int32.toInt (τ6.1 71 17) ≤ 60; omega) (by show 0 ≤ Int32.toInt (τ6.1 71 64) ∧ Int32.toInt (τ6.1 71 64) ≤ Int32.toInt (τ6.1 71 17); omega) (by show Int32.toInt (τ6.1 71 65) = 0 ∨ Int32.toInt (τ6.1 71 65) = 1; omega)) cv_X10_327 y71 rfl rfl rfl ⟨by decide, by decide⟩ (Nat.le_of_ble_eq_true rfl) dX10_statement_79 ?_
    intro τ13 h14
    have fh14 : Int32.toInt (τ13.1 71 17) = Int32.toInt (τ6.1 71 17) := congrArg Int32.toInt (h14.1.f 71 17 (by decide) (by decide))
    have gh14 : (Int32.toInt (τ13.1 71 65) = 1 ∧ Int32.toInt (τ13.1 71 64) = Int32.toInt (τ6.1 71 64) ∨ Int32.toInt (τ13.1 71 65) = 0 ∧ Int32.toInt (τ13.1 71 64) = Int32.toInt (τ6.1 71 64) + 1 ∧ Int32.toInt (τ6.1 71 65) = 0 ∧ Int32.toInt (τ13.1 71 64) ≤ Int32.toInt (τ6.1 71 17)) := h14.2
    refine s_aload_n C dX10_statement_82 rfl ?_
    refine s_callVI (st := []) C (c_X10_figure l ad τ13 (by show 0 ≤ Int32.toInt (τ13.1 71 17) ∧ Int32.toInt (τ13.1 71 17) ≤ 60; omega) (by show 0 ≤ Int32.toInt (τ13.1 71 64) ∧ Int32.toInt (τ13.1 71 64) ≤ Int32.toInt (τ13.1 71 17); omega) (by show Int32.toInt (τ13.1 71 65) = 0 ∨ Int32.toInt (τ13.1 71 65) = 1; omega)) cv_X10_330 y71 rfl rfl rfl ⟨by decide, by decide⟩ (Nat.le_of_ble_eq_true rfl) dX10_statement_83 ?_
    intro r15 τ16 h17
    have fh17 : Int32.toInt (τ16.1 71 17) = Int32.toInt (τ13.1 71 17) := congrArg Int32.toInt (h17.1.f 71 17 (by decide) (by decide))
    have gh17 : (Int32.toInt (τ16.1 71 65) = 1 ∧ Int32.toInt (τ16.1 71 64) = Int32.toInt (τ13.1 71 64) ∨ Int32.toInt (τ16.1 71 65) = 0 ∧ Int32.toInt (τ16.1 71 64) = Int32.toInt (τ13.1 71 64) + 1 ∧ Int32.toInt (τ13.1 71 65) = 0 ∧ Int32.toInt (τ16.1 71 64) ≤ Int32.toInt (τ13.1 71 17)) := h17.2.1
    have kh17 := h17.2.2
    refine s_istore_n C dX10_statement_86 (by decide) (Nat.le_of_ble_eq_true rfl) rfl ?_
    show WP E ad 87 [some (.ref (ad 71)), some (.int c), some (.int r5), some (.int r15), none, none] [] τ16
    exact E_st87 l ad E σ htp hpl hba hst c r5 r15 τ16  C X (Fr.tr (Fr.tr (Fr.tr (Fr.tr (Fr.tr Fr.rf (Fr.mo kF (by decide) (by decide))) (Fr.mo h4.1 (by decide) (by decide))) (Fr.mo h7.1 (by decide) (by decide))) (Fr.mo h14.1 (by decide) (by decide))) (Fr.mo h17.1 (by decide) (by decide))) (by show Int32.toInt (τ16.1 71 65) = 0 ∨ Int32.toInt (τ16.1 71 65) = 1; omega) (by show _ ≤ Int32.toInt (τ16.1 71 64) ∧ Int32.toInt (τ16.1 71 64) ≤ _; omega) (fun q => by replace q : Int32.toInt (τ16.1 71 65) = 0 := q; show _ ≤ Int32.toInt (τ16.1 71 64); omega)
set_option maxRecDepth 100000 in
theorem c_X10_statement (l : Launch) (ad : Nat → Nat) (σ : Sg) (htp : 0 ≤ (σ.1 71 17).toInt ∧ (σ.1 71 17).toInt ≤ 60) (hpl : 0 ≤ (σ.1 71 64).toInt ∧ (σ.1 71 64).toInt ≤ (σ.1 71 17).toInt) (hba : (σ.1 71 65).toInt = 0 ∨ (σ.1 71 65).toInt = 1) (hst : 0 ≤ (σ.1 71 59).toInt ∧ 6 * (σ.1 71 59).toInt ≤ (σ.1 71 64).toInt) : Mt l yX10_statement cX10_statement 6 none 3 ad σ [.ref (ad 71)] (oV (fun τ => Fr [117, 118, 119, 120] [(71, 64), (71, 65), (71, 59)] σ τ ∧ 0 ≤ (τ.1 71 64).toInt ∧ (τ.1 71 64).toInt ≤ (σ.1 71 17).toInt ∧ ((τ.1 71 65).toInt = 1 ∧ (τ.1 71 59).toInt = (σ.1 71 59).toInt ∨ (τ.1 71 65).toInt = 0 ∧ (τ.1 71 59).toInt = (σ.1 71 59).toInt + 1 ∧ (σ.1 71 64).toInt + 5 ≤ (τ.1 71 64).toInt))) := by
  refine Mt_intro (by decide +kernel) (by simp [lg_sl, Value.category]) (fun E C X => ?_)
  show WP E ad 0 [some (.ref (ad 71)), none, none, none, none, none] [] σ
  refine s_aload_n C dX10_statement_0 rfl ?_
  refine s_aload_n C dX10_statement_1 rfl ?_
  refine s_get (k := 64) (x := (σ.1 71 64)) C y71 fw_X10_324 rfl rfl dX10_statement_2 ?_
  refine s_callVI (st := []) C (c_X10_tapeAt l ad σ (σ.1 71 64) (by show 0 ≤ Int32.toInt (σ.1 71 64); omega) (by show 0 ≤ Int32.toInt (σ.1 71 17) ∧ Int32.toInt (σ.1 71 17) ≤ 60; omega)) cv_X10_254 y71 rfl rfl rfl ⟨by decide, by decide⟩ (Nat.le_of_ble_eq_true rfl) dX10_statement_5 ?_
  intro r1 τ2 h3
  obtain ⟨eh3, h3⟩ := h3; replace eh3 := eh3.symm; subst eh3
  have ah3 : Int32.toInt (σ.1 71 64) < Int32.toInt (σ.1 71 17) → Int32.toInt r1 = Int32.toInt (σ.1 86 ((σ.1 71 64).toNatClampNeg)) := fun q => congrArg Int32.toInt (h3.1 q)
  have bh3 : Int32.toInt (σ.1 71 17) ≤ Int32.toInt (σ.1 71 64) → Int32.toInt r1 = -1 := h3.2
  clear h3
  refine s_istore_n C dX10_statement_8 (by decide) (Nat.le_of_ble_eq_true rfl) rfl ?_
  show WP E ad 9 [some (.ref (ad 71)), some (.int r1), none, none, none, none] [] σ
  refine s_aload_n C dX10_statement_9 rfl ?_
  refine s_iload_n C dX10_statement_10 rfl ?_
  refine s_bipush C dX10_statement_11 (by decide) (fun z4 tz4 => ?_)
  refine s_icmp_eq (tgt := 32) C dX10_statement_13 (by decide) (fun q5 => ?_) (fun q5 => ?_)
  · refine s_iconst C dX10_statement_32 (by decide) (fun z6 tz6 => ?_)
    refine s_putz (k := 65) C y71 fw_X10_321 fp_9_65 rfl (by omega) dX10_statement_33 ?_
    refine s_aload_n C dX10_statement_36 rfl ?_
    refine s_dup C dX10_statement_37 rfl ?_
    refine s_get (k := 64) (x := (σ.1 71 64)) C y71 fw_X10_324 rfl rfl dX10_statement_38 ?_
    refine s_aload_n C dX10_statement_41 rfl ?_
    refine s_get (k := 65) (x := z6) C y71 fw_X10_321 rfl rfl dX10_statement_42 ?_
    refine s_if_eq (tgt := 52) C dX10_statement_45 (by decide) (fun q7 => ?_) (fun q7 => ?_)
    · refine s_iconst C dX10_statement_52 (by decide) (fun z8 tz8 => ?_)
      refine s_iadd C dX10_statement_53 (by omega) (fun z9 tz9 => ?_)
      refine s_put (k := 64) C y71 fw_X10_324 fp_9_64 rfl dX10_statement_54 ?_
      exact E_st57 l ad E σ htp hpl hba hst r1 (sV (sV σ 71 65 z6) 71 64 z9)  C X (Fr.sV (Fr.sV Fr.rf (Or.inr (by decide))) (Or.inr (by decide))) (by show Int32.toInt z6 = 0 ∨ Int32.toInt z6 = 1; omega) (by show _ ≤ Int32.toInt z9 ∧ Int32.toInt z9 ≤ _; omega) (fun q => by replace q : Int32.toInt z6 = 0 := q; show _ ≤ Int32.toInt z9; omega)
    · refine s_iconst C dX10_statement_48 (by decide) (fun z10 tz10 => ?_)
      refine s_goto (tgt := 53) C dX10_statement_49 (by decide) ?_
      refine s_iadd C dX10_statement_53 (by omega) (fun z11 tz11 => ?_)
      refine s_put (k := 64) C y71 fw_X10_324 fp_9_64 rfl dX10_statement_54 ?_
      exact E_st57 l ad E σ htp hpl hba hst r1 (sV (sV σ 71 65 z6) 71 64 z11)  C X (Fr.sV (Fr.sV Fr.rf (Or.inr (by decide))) (Or.inr (by decide))) (by show Int32.toInt z6 = 0 ∨ Int32.toInt z6 = 1; omega) (by show _ ≤ Int32.toInt z11 ∧ Int32.toInt z11 ≤ _; omega) (fun q => by replace q : Int32.toInt z6 = 0 := q; show _ ≤ Int32.toInt z11; omega)
  · refine s_iload_n C dX10_statement_16 rfl ?_
    refine s_bipush C dX10_statement_17 (by decide) (fun z12 tz12 => ?_)
    refine s_icmp_eq (tgt := 32) C dX10_statement_19 (by decide) (fun q13 => ?_) (fun q13 => ?_)
    · refine s_iconst C dX10_statement_32 (by decide) (fun z14 tz14 => ?_)
      refine s_putz (k := 65) C y71 fw_X10_321 fp_9_65 rfl (by omega) dX10_statement_33 ?_
      refine s_aload_n C dX10_statement_36 rfl ?_
      refine s_dup C dX10_statement_37 rfl ?_
      refine s_get (k := 64) (x := (σ.1 71 64)) C y71 fw_X10_324 rfl rfl dX10_statement_38 ?_
      refine s_aload_n C dX10_statement_41 rfl ?_
      refine s_get (k := 65) (x := z14) C y71 fw_X10_321 rfl rfl dX10_statement_42 ?_
      refine s_if_eq (tgt := 52) C dX10_statement_45 (by decide) (fun q15 => ?_) (fun q15 => ?_)
      · refine s_iconst C dX10_statement_52 (by decide) (fun z16 tz16 => ?_)
        refine s_iadd C dX10_statement_53 (by omega) (fun z17 tz17 => ?_)
        refine s_put (k := 64) C y71 fw_X10_324 fp_9_64 rfl dX10_statement_54 ?_
        exact E_st57 l ad E σ htp hpl hba hst r1 (sV (sV σ 71 65 z14) 71 64 z17)  C X (Fr.sV (Fr.sV Fr.rf (Or.inr (by decide))) (Or.inr (by decide))) (by show Int32.toInt z14 = 0 ∨ Int32.toInt z14 = 1; omega) (by show _ ≤ Int32.toInt z17 ∧ Int32.toInt z17 ≤ _; omega) (fun q => by replace q : Int32.toInt z14 = 0 := q; show _ ≤ Int32.toInt z17; omega)
      · refine s_iconst C dX10_statement_48 (by decide) (fun z18 tz18 => ?_)
        refine s_goto (tgt := 53) C dX10_statement_49 (by decide) ?_
        refine s_iadd C dX10_statement_53 (by omega) (fun z19 tz19 => ?_)
        refine s_put (k := 64) C y71 fw_X10_324 fp_9_64 rfl dX10_statement_54 ?_
        exact E_st57 l ad E σ htp hpl hba hst r1 (sV (sV σ 71 65 z14) 71 64 z19)  C X (Fr.sV (Fr.sV Fr.rf (Or.inr (by decide))) (Or.inr (by decide))) (by show Int32.toInt z14 = 0 ∨ Int32.toInt z14 = 1; omega) (by show _ ≤ Int32.toInt z19 ∧ Int32.toInt z19 ≤ _; omega) (fun q => by replace q : Int32.toInt z14 = 0 := q; show _ ≤ Int32.toInt z19; omega)
    · refine s_iload_n C dX10_statement_22 rfl ?_
      refine s_bipush C dX10_statement_23 (by decide) (fun z20 tz20 => ?_)
      refine s_icmp_eq (tgt := 32) C dX10_statement_25 (by decide) (fun q21 => ?_) (fun q21 => ?_)
      · refine s_iconst C dX10_statement_32 (by decide) (fun z22 tz22 => ?_)
        refine s_putz (k := 65) C y71 fw_X10_321 fp_9_65 rfl (by omega) dX10_statement_33 ?_
        refine s_aload_n C dX10_statement_36 rfl ?_
        refine s_dup C dX10_statement_37 rfl ?_
        refine s_get (k := 64) (x := (σ.1 71 64)) C y71 fw_X10_324 rfl rfl dX10_statement_38 ?_
        refine s_aload_n C dX10_statement_41 rfl ?_
        refine s_get (k := 65) (x := z22) C y71 fw_X10_321 rfl rfl dX10_statement_42 ?_
        refine s_if_eq (tgt := 52) C dX10_statement_45 (by decide) (fun q23 => ?_) (fun q23 => ?_)
        · refine s_iconst C dX10_statement_52 (by decide) (fun z24 tz24 => ?_)
          refine s_iadd C dX10_statement_53 (by omega) (fun z25 tz25 => ?_)
          refine s_put (k := 64) C y71 fw_X10_324 fp_9_64 rfl dX10_statement_54 ?_
          exact E_st57 l ad E σ htp hpl hba hst r1 (sV (sV σ 71 65 z22) 71 64 z25)  C X (Fr.sV (Fr.sV Fr.rf (Or.inr (by decide))) (Or.inr (by decide))) (by show Int32.toInt z22 = 0 ∨ Int32.toInt z22 = 1; omega) (by show _ ≤ Int32.toInt z25 ∧ Int32.toInt z25 ≤ _; omega) (fun q => by replace q : Int32.toInt z22 = 0 := q; show _ ≤ Int32.toInt z25; omega)
        · refine s_iconst C dX10_statement_48 (by decide) (fun z26 tz26 => ?_)
          refine s_goto (tgt := 53) C dX10_statement_49 (by decide) ?_
          refine s_iadd C dX10_statement_53 (by omega) (fun z27 tz27 => ?_)
          refine s_put (k := 64) C y71 fw_X10_324 fp_9_64 rfl dX10_statement_54 ?_
          exact E_st57 l ad E σ htp hpl hba hst r1 (sV (sV σ 71 65 z22) 71 64 z27)  C X (Fr.sV (Fr.sV Fr.rf (Or.inr (by decide))) (Or.inr (by decide))) (by show Int32.toInt z22 = 0 ∨ Int32.toInt z22 = 1; omega) (by show _ ≤ Int32.toInt z27 ∧ Int32.toInt z27 ≤ _; omega) (fun q => by replace q : Int32.toInt z22 = 0 := q; show _ ≤ Int32.toInt z27; omega)
      · refine s_iconst C dX10_statement_28 (by decide) (fun z28 tz28 => ?_)
        refine s_goto (tgt := 33) C dX10_statement_29 (by decide) ?_
        refine s_putz (k := 65) C y71 fw_X10_321 fp_9_65 rfl (by omega) dX10_statement_33 ?_
        refine s_aload_n C dX10_statement_36 rfl ?_
        refine s_dup C dX10_statement_37 rfl ?_
        refine s_get (k := 64) (x := (σ.1 71 64)) C y71 fw_X10_324 rfl rfl dX10_statement_38 ?_
        refine s_aload_n C dX10_statement_41 rfl ?_
        refine s_get (k := 65) (x := z28) C y71 fw_X10_321 rfl rfl dX10_statement_42 ?_
        refine s_if_eq (tgt := 52) C dX10_statement_45 (by decide) (fun q29 => ?_) (fun q29 => ?_)
        · refine s_iconst C dX10_statement_52 (by decide) (fun z30 tz30 => ?_)
          refine s_iadd C dX10_statement_53 (by omega) (fun z31 tz31 => ?_)
          refine s_put (k := 64) C y71 fw_X10_324 fp_9_64 rfl dX10_statement_54 ?_
          exact E_st57 l ad E σ htp hpl hba hst r1 (sV (sV σ 71 65 z28) 71 64 z31)  C X (Fr.sV (Fr.sV Fr.rf (Or.inr (by decide))) (Or.inr (by decide))) (by show Int32.toInt z28 = 0 ∨ Int32.toInt z28 = 1; omega) (by show _ ≤ Int32.toInt z31 ∧ Int32.toInt z31 ≤ _; omega) (fun q => by replace q : Int32.toInt z28 = 0 := q; show _ ≤ Int32.toInt z31; omega)
        · refine s_iconst C dX10_statement_48 (by decide) (fun z32 tz32 => ?_)
          refine s_goto (tgt := 53) C dX10_statement_49 (by decide) ?_
          refine s_iadd C dX10_statement_53 (by omega) (fun z33 tz33 => ?_)
          refine s_put (k := 64) C y71 fw_X10_324 fp_9_64 rfl dX10_statement_54 ?_
          exact E_st57 l ad E σ htp hpl hba hst r1 (sV (sV σ 71 65 z28) 71 64 z33)  C X (Fr.sV (Fr.sV Fr.rf (Or.inr (by decide))) (Or.inr (by decide))) (by show Int32.toInt z28 = 0 ∨ Int32.toInt z28 = 1; omega) (by show _ ≤ Int32.toInt z33 ∧ Int32.toInt z33 ≤ _; omega) (fun q => by replace q : Int32.toInt z28 = 0 := q; show _ ≤ Int32.toInt z33; omega)
