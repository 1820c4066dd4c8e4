set_option maxRecDepth 100000 in
theorem L2_list (l : Launch) (ad : Nat → Nat) (E : Ev) (σ : Sg) (a n0 : Int32) (ha : 0 ≤ a.toInt ∧ a.toInt ≤ 2) (hn : -1 ≤ n0.toInt ∧ n0.toInt ≤ 20) (C : Cx E l (rmk 2) 4 cX10_list RX10) (X : Rx E ad (some .int) (oI (fun r τ => IM τ.1 ∧ Fr [87, 88] [] σ τ ∧ r.toInt = lsA a.toInt n0.toInt)))  : ∀ (n : Nat) (τ : Sg) (z : Int32), (Fr [87, 88] [] σ τ) → (IM τ.1) → (0 ≤ z.toInt) → (20 - z.toInt).toNat < n → WP E ad 35 [some (.ref (ad 71)), some (.int a), some (.int n0), some (.int z)] [] τ := by
  intro n
  induction n with
  | zero => intro τ z kF kI h0 hm9; exact absurd hm9 (Nat.not_lt_zero _)
  | succ n ih =>
    intro τ z kF kI h0 hm9
    refine s_iload_n C dX10_list_35 rfl ?_
    refine s_iload_n C dX10_list_36 rfl ?_
    refine s_icmp_ge (tgt := 58) C dX10_list_37 (by decide) (fun q1 => ?_) (fun q1 => ?_)
    · refine s_iconst C dX10_list_58 (by decide) (fun z2 tz2 => ?_)
      exact s_iret C X dX10_list_59 ⟨kI, (Fr.tr Fr.rf (Fr.mo kF (by decide) (by decide))), by unfold lsA; split <;> (try split) <;> (try split) <;> omega⟩
    · refine s_aload_n C dX10_list_40 rfl ?_
      refine s_getr (k := 20) (j := 88) C y71 fw_X10_64 rfl dX10_list_41 ?_
      refine s_bipush C dX10_list_44 (by decide) (fun z3 tz3 => ?_)
      refine s_iload_n C dX10_list_46 rfl ?_
      refine s_imulL C tz3 dX10_list_47 (by omega) (fun z4 tz4 => ?_)
      refine s_iload_n C dX10_list_48 rfl ?_
      refine s_iadd C dX10_list_49 (by omega) (fun z5 tz5 => ?_)
      refine s_lconst C dX10_list_50 rfl (fun L6 tL6 => ?_)
      have tL6 : L6.toInt = 0 := tL6
      refine s_last C y88 (by omega) dX10_list_51 ?_
      refine s_iinc C dX10_list_52 rfl (by decide) rfl (by decide) (by omega) (fun z7 tz7 => ?_)
      show WP E ad 55 [some (.ref (ad 71)), some (.int a), some (.int n0), some (.int z7)] [] (sL τ 88 z5.toNatClampNeg L6)
      refine s_goto (tgt := 35) C dX10_list_55 (by decide) ?_
      exact ih (sL τ 88 z5.toNatClampNeg L6) z7 (Fr.sL (Fr.tr Fr.rf (Fr.mo kF (by decide) (by decide))) (by decide)) kI (by omega) (by omega)
set_option maxRecDepth 100000 in
theorem c2_X10_list (l : Launch) (ad : Nat → Nat) (σ : Sg) (a n0 : Int32) (hI : IM σ.1) : Mt l yX10_list cX10_list 4 (some .int) 2 ad σ [.ref (ad 71), .int a, .int n0] (oI (fun r τ => IM τ.1 ∧ Fr [87, 88] [] σ τ ∧ r.toInt = lsA a.toInt n0.toInt)) := by
  refine Mt_intro (by decide +kernel) (by simp [lg_sl, Value.category]) (fun E C X => ?_)
  show WP E ad 0 [some (.ref (ad 71)), some (.int a), some (.int n0), none] [] σ
  refine s_iload_n C dX10_list_0 rfl ?_
  refine s_callSI (st := []) C (c_X10_isList l ad σ a ) cv_X10_349 rfl rfl ⟨by decide, by decide⟩ (Nat.le_of_ble_eq_true rfl) dX10_list_1 ?_
  intro r1 τ2 h3
  obtain ⟨eh3, h3⟩ := h3; replace eh3 := eh3.symm; subst eh3
  refine s_if_ne (tgt := 9) C dX10_list_4 (by decide) (fun q4 => ?_) (fun q4 => ?_)
  · refine s_iload_n C dX10_list_9 rfl ?_
    refine s_bipush C dX10_list_10 (by decide) (fun z5 tz5 => ?_)
    refine s_icmp_le (tgt := 18) C dX10_list_12 (by decide) (fun q6 => ?_) (fun q6 => ?_)
    · refine s_iload_n C dX10_list_18 rfl ?_
      refine s_iconst C dX10_list_19 (by decide) (fun z7 tz7 => ?_)
      refine s_icmp_ge (tgt := 26) C dX10_list_20 (by decide) (fun q8 => ?_) (fun q8 => ?_)
      · refine s_aload_n C dX10_list_26 rfl ?_
        refine s_getr (k := 19) (j := 87) C y71 fw_X10_61 rfl dX10_list_27 ?_
        refine s_iload_n C dX10_list_30 rfl ?_
        refine s_iload_n C dX10_list_31 rfl ?_
        refine s_iast C y87 (by omega) dX10_list_32 ?_
        refine s_iconst C dX10_list_33 (by decide) (fun z9 tz9 => ?_)
        refine s_istore_n C dX10_list_34 (by decide) (Nat.le_of_ble_eq_true rfl) rfl ?_
        show WP E ad 35 [some (.ref (ad 71)), some (.int a), some (.int n0), some (.int z9)] [] (sV σ 87 a.toNatClampNeg n0)
        exact L2_list l ad E σ a n0 (by omega) (by omega) C X 100 (sV σ 87 a.toNatClampNeg n0) z9 (Fr.sV Fr.rf (Or.inl (by decide))) ⟨hI.1, hI.2.1, hI.2.2.1, up_iv hI.2.2.2.1 _ (by omega), hI.2.2.2.2.1, hI.2.2.2.2.2.1, hI.2.2.2.2.2.2⟩ (by omega) (by omega)
      · refine s_bipush C dX10_list_23 (by decide) (fun z10 tz10 => ?_)
        exact s_iret C X dX10_list_25 ⟨hI, Fr.rf, by unfold lsA; split <;> (try split) <;> (try split) <;> omega⟩
    · refine s_bipush C dX10_list_15 (by decide) (fun z11 tz11 => ?_)
      exact s_iret C X dX10_list_17 ⟨hI, Fr.rf, by unfold lsA; split <;> (try split) <;> (try split) <;> omega⟩
  · refine s_iconst C dX10_list_7 (by decide) (fun z12 tz12 => ?_)
    exact s_iret C X dX10_list_8 ⟨hI, Fr.rf, by unfold lsA; split <;> (try split) <;> (try split) <;> omega⟩
set_option maxRecDepth 100000 in
theorem c2_X10_feed (l : Launch) (ad : Nat → Nat) (σ : Sg) (c : Int32) (hI : IM σ.1) : Mt l yX10_feed cX10_feed 2 (some .int) 2 ad σ [.ref (ad 71), .int c] (oI (fun r τ => IM τ.1 ∧ Fr [86] [(71, 17)] σ τ ∧ ((¬ (32 ≤ c.toInt ∧ c.toInt ≤ 126) ∧ r.toInt = -2 ∧ τ.1 71 17 = σ.1 71 17) ∨ ((32 ≤ c.toInt ∧ c.toInt ≤ 126) ∧ 60 ≤ (σ.1 71 17).toInt ∧ r.toInt = -4 ∧ τ.1 71 17 = σ.1 71 17) ∨ ((32 ≤ c.toInt ∧ c.toInt ≤ 126) ∧ (σ.1 71 17).toInt < 60 ∧ r.toInt = (σ.1 71 17).toInt + 1 ∧ (τ.1 71 17).toInt = (σ.1 71 17).toInt + 1)))) := by
  have hpr := hI.pr
  have htot := hI.tot
  have hms := hI.ms
  have htp := hI.tp
  refine Mt_intro (by decide +kernel) (by simp [lg_sl, Value.category]) (fun E C X => ?_)
  show WP E ad 0 [some (.ref (ad 71)), some (.int c)] [] σ
  refine s_iload_n C dX10_feed_0 rfl ?_
  refine s_i2l C dX10_feed_1 (fun L1 tL1 => ?_)
  obtain ⟨L2, eL2⟩ : ∃ q : Int64, q = 32 := ⟨_, rfl⟩
  have tL2 : L2.toInt = 32 := by rw [eL2]; rfl
  refine s_ldc2 (v := L2) C dX10_feed_2 (by rw [eL2]; exact mw 1434 (by decide +kernel) rfl) ?_
  obtain ⟨L3, eL3⟩ : ∃ q : Int64, q = 126 := ⟨_, rfl⟩
  have tL3 : L3.toInt = 126 := by rw [eL3]; rfl
  refine s_ldc2 (v := L3) C dX10_feed_5 (by rw [eL3]; exact mw 1435 (by decide +kernel) rfl) ?_
  refine s_callSI (st := []) C (c_X10_in l ad σ L1 L2 L3 ) cv_X10_165 rfl rfl ⟨by decide, by decide⟩ (Nat.le_of_ble_eq_true rfl) dX10_feed_8 ?_
  intro r4 τ5 h6
  obtain ⟨eh6, h6⟩ := h6; replace eh6 := eh6.symm; subst eh6
  refine s_if_ne (tgt := 17) C dX10_feed_11 (by decide) (fun q7 => ?_) (fun q7 => ?_)
  · refine s_aload_n C dX10_feed_17 rfl ?_
    refine s_get (k := 17) (x := (σ.1 71 17)) C y71 fw_X10_247 rfl rfl dX10_feed_18 ?_
    refine s_bipush C dX10_feed_21 (by decide) (fun z8 tz8 => ?_)
    refine s_icmp_ne (tgt := 29) C dX10_feed_23 (by decide) (fun q9 => ?_) (fun q9 => ?_)
    · refine s_aload_n C dX10_feed_29 rfl ?_
      refine s_getr (k := 18) (j := 86) C y71 fw_X10_58 rfl dX10_feed_30 ?_
      refine s_aload_n C dX10_feed_33 rfl ?_
      refine s_get (k := 17) (x := (σ.1 71 17)) C y71 fw_X10_247 rfl rfl dX10_feed_34 ?_
      refine s_iload_n C dX10_feed_37 rfl ?_
      refine s_iast C y86 (by omega) dX10_feed_38 ?_
      refine s_aload_n C dX10_feed_39 rfl ?_
      refine s_dup C dX10_feed_40 rfl ?_
      refine s_get (k := 17) (x := (σ.1 71 17)) C y71 fw_X10_247 rfl rfl dX10_feed_41 ?_
      refine s_iconst C dX10_feed_44 (by decide) (fun z10 tz10 => ?_)
      refine s_iadd C dX10_feed_45 (by omega) (fun z11 tz11 => ?_)
      refine s_put (k := 17) C y71 fw_X10_247 fp_9_17 rfl dX10_feed_46 ?_
      refine s_aload_n C dX10_feed_49 rfl ?_
      refine s_get (k := 17) (x := z11) C y71 fw_X10_247 rfl rfl dX10_feed_50 ?_
      exact s_iret C X dX10_feed_53 ⟨⟨hI.1, hI.2.1, (by show 0 ≤ z11.toInt ∧ z11.toInt ≤ 60; omega), hI.2.2.2.1, hI.2.2.2.2.1, hI.2.2.2.2.2.1, hI.2.2.2.2.2.2⟩, (Fr.sV (Fr.sV Fr.rf (Or.inl (by decide))) (Or.inr (by decide))), Or.inr (Or.inr ⟨by omega, by omega, by omega, by show Int32.toInt z11 = _; omega⟩)⟩
    · refine s_bipush C dX10_feed_26 (by decide) (fun z12 tz12 => ?_)
      exact s_iret C X dX10_feed_28 ⟨hI, Fr.rf, (by first | exact Or.inl ⟨by omega, by omega, rfl⟩ | exact Or.inr (Or.inl ⟨by omega, by omega, by omega, rfl⟩))⟩
  · refine s_bipush C dX10_feed_14 (by decide) (fun z13 tz13 => ?_)
    exact s_iret C X dX10_feed_16 ⟨hI, Fr.rf, (by first | exact Or.inl ⟨by omega, by omega, rfl⟩ | exact Or.inr (Or.inl ⟨by omega, by omega, by omega, rfl⟩))⟩
set_option maxRecDepth 100000 in
theorem c2_X10_wipe (l : Launch) (ad : Nat → Nat) (σ : Sg) (hI : IM σ.1) : Mt l yX10_wipe cX10_wipe 2 (some .int) 0 ad σ [.ref (ad 71)] (oI (fun r τ => IM τ.1 ∧ Fr [] [(71, 17)] σ τ ∧ r = σ.1 71 17 ∧ (τ.1 71 17).toInt = 0)) := by
  have hpr := hI.pr
  have htot := hI.tot
  have hms := hI.ms
  have htp := hI.tp
  refine Mt_intro (by decide +kernel) (by simp [lg_sl, Value.category]) (fun E C X => ?_)
  show WP E ad 0 [some (.ref (ad 71)), none] [] σ
  refine s_aload_n C dX10_wipe_0 rfl ?_
  refine s_get (k := 17) (x := (σ.1 71 17)) C y71 fw_X10_247 rfl rfl dX10_wipe_1 ?_
  refine s_istore_n C dX10_wipe_4 (by decide) (Nat.le_of_ble_eq_true rfl) rfl ?_
  show WP E ad 5 [some (.ref (ad 71)), some (.int (σ.1 71 17))] [] σ
  refine s_aload_n C dX10_wipe_5 rfl ?_
  refine s_iconst C dX10_wipe_6 (by decide) (fun z1 tz1 => ?_)
  refine s_put (k := 17) C y71 fw_X10_247 fp_9_17 rfl dX10_wipe_7 ?_
  refine s_iload_n C dX10_wipe_10 rfl ?_
  exact s_iret C X dX10_wipe_11 ⟨⟨hI.1, hI.2.1, (by show 0 ≤ z1.toInt ∧ z1.toInt ≤ 60; omega), hI.2.2.2.1, hI.2.2.2.2.1, hI.2.2.2.2.2.1, hI.2.2.2.2.2.2⟩, (Fr.sV Fr.rf (Or.inr (by decide))), rfl, by show Int32.toInt z1 = 0; omega⟩
set_option maxRecDepth 100000 in
theorem c2_X10_start (l : Launch) (ad : Nat → Nat) (σ : Sg) (p v : Int32) (hI : IM σ.1) : Mt l yX10_start cX10_start 4 (some .int) 3 ad σ [.ref (ad 71), .int p, .int v] (oI (fun r τ => IM τ.1 ∧ Fr [72] [] σ τ ∧ ((¬ (0 ≤ p.toInt ∧ p.toInt < (σ.1 71 0).toInt) ∧ r.toInt = -1 ∧ τ.1 72 = σ.1 72) ∨ ((0 ≤ p.toInt ∧ p.toInt < (σ.1 71 0).toInt) ∧ ¬ (-99 ≤ v.toInt ∧ v.toInt ≤ 99) ∧ r.toInt = -2 ∧ τ.1 72 = σ.1 72) ∨ ((0 ≤ p.toInt ∧ p.toInt < (σ.1 71 0).toInt) ∧ (-99 ≤ v.toInt ∧ v.toInt ≤ 99) ∧ r = σ.1 72 p.toNatClampNeg + 100 ∧ τ.1 72 = upd (σ.1 72) p.toNatClampNeg v)))) := by
  have hpr := hI.pr
  have htot := hI.tot
  have hms := hI.ms
  have htp := hI.tp
  refine Mt_intro (by decide +kernel) (by simp [lg_sl, Value.category]) (fun E C X => ?_)
  show WP E ad 0 [some (.ref (ad 71)), some (.int p), some (.int v), none] [] σ
  refine s_aload_n C dX10_start_0 rfl ?_
  refine s_iload_n C dX10_start_1 rfl ?_
  refine s_callVI (st := []) C (c_X10_isProcess l ad σ p (by omega)) cv_X10_169 y71 rfl rfl rfl ⟨by decide, by decide⟩ (Nat.le_of_ble_eq_true rfl) dX10_start_2 ?_
  intro r1 τ2 h3
  obtain ⟨eh3, h3⟩ := h3; replace eh3 := eh3.symm; subst eh3
  refine s_if_ne (tgt := 10) C dX10_start_5 (by decide) (fun q4 => ?_) (fun q4 => ?_)
  · refine s_iload_n C dX10_start_10 rfl ?_
    refine s_i2l C dX10_start_11 (fun L5 tL5 => ?_)
    obtain ⟨L6, eL6⟩ : ∃ q : Int64, q = -99 := ⟨_, rfl⟩
    have tL6 : L6.toInt = -99 := by rw [eL6]; rfl
    refine s_ldc2 (v := L6) C dX10_start_12 (by rw [eL6]; exact mw 1194 (by decide +kernel) rfl) ?_
    obtain ⟨L7, eL7⟩ : ∃ q : Int64, q = 99 := ⟨_, rfl⟩
    have tL7 : L7.toInt = 99 := by rw [eL7]; rfl
    refine s_ldc2 (v := L7) C dX10_start_15 (by rw [eL7]; exact mw 1195 (by decide +kernel) rfl) ?_
    refine s_callSI (st := []) C (c_X10_in l ad σ L5 L6 L7 ) cv_X10_165 rfl rfl ⟨by decide, by decide⟩ (Nat.le_of_ble_eq_true rfl) dX10_start_18 ?_
    intro r8 τ9 h10
    obtain ⟨eh10, h10⟩ := h10; replace eh10 := eh10.symm; subst eh10
    refine s_if_ne (tgt := 27) C dX10_start_21 (by decide) (fun q11 => ?_) (fun q11 => ?_)
    · refine s_aload_n C dX10_start_27 rfl ?_
      refine s_getr (k := 1) (j := 72) C y71 fw_X10_15 rfl dX10_start_28 ?_
      refine s_iload_n C dX10_start_31 rfl ?_
      refine s_iald (r := (σ.1 72 p.toNatClampNeg)) C y72 (by omega) rfl dX10_start_32 ?_
      refine s_istore_n C dX10_start_33 (by decide) (Nat.le_of_ble_eq_true rfl) rfl ?_
      show WP E ad 34 [some (.ref (ad 71)), some (.int p), some (.int v), some (.int (σ.1 72 p.toNatClampNeg))] [] σ
      refine s_aload_n C dX10_start_34 rfl ?_
      refine s_getr (k := 1) (j := 72) C y71 fw_X10_15 rfl dX10_start_35 ?_
      refine s_iload_n C dX10_start_38 rfl ?_
      refine s_iload_n C dX10_start_39 rfl ?_
      refine s_iast C y72 (by omega) dX10_start_40 ?_
      refine s_iload_n C dX10_start_41 rfl ?_
      refine s_bipush C dX10_start_42 (by decide) (fun z12 tz12 => ?_)
      skip
      refine s_iaddU C dX10_start_44 (fun z13 tz13 => ?_)
      exact s_iret C X dX10_start_45 ⟨hI, (Fr.sV Fr.rf (Or.inl (by decide))), Or.inr (Or.inr ⟨by omega, by omega, by rw [tz13, ceq (n := 100) tz12], rfl⟩)⟩
    · refine s_bipush C dX10_start_24 (by decide) (fun z14 tz14 => ?_)
      exact s_iret C X dX10_start_26 ⟨hI, Fr.rf, (by first | exact Or.inl ⟨by omega, by omega, rfl⟩ | exact Or.inr (Or.inl ⟨by omega, by omega, by omega, rfl⟩))⟩
  · refine s_iconst C dX10_start_8 (by decide) (fun z15 tz15 => ?_)
    exact s_iret C X dX10_start_9 ⟨hI, Fr.rf, (by first | exact Or.inl ⟨by omega, by omega, rfl⟩ | exact Or.inr (Or.inl ⟨by omega, by omega, by omega, rfl⟩))⟩
set_option maxRecDepth 100000 in
theorem c2_X10_image (l : Launch) (ad : Nat → Nat) (σ : Sg) (hI : IM σ.1) : Mt l yX10_image cX10_image 1 (some .int) 1 ad σ [.ref (ad 71)] (oI (fun r τ => IM τ.1 ∧ Fr [89, 90, 91, 92, 93, 94, 95, 96, 97, 98, 99, 100, 101, 102] [(71, 21), (71, 22), (71, 30), (71, 32)] σ τ ∧ τ.1 71 22 = σ.1 71 0 ∧ τ.1 89 = σ.1 72 ∧ (τ.1 71 21).toInt = 1)) := by
  have hpr := hI.pr
  have htot := hI.tot
  have hms := hI.ms
  have htp := hI.tp
  refine Mt_intro (by decide +kernel) (by simp [lg_sl, Value.category]) (fun E C X => ?_)
  show WP E ad 0 [some (.ref (ad 71))] [] σ
  refine s_aload_n C dX10_image_0 rfl ?_
  refine s_iconst C dX10_image_1 (by decide) (fun z1 tz1 => ?_)
  refine s_putz (k := 21) C y71 fw_X10_352 fp_9_21 rfl (by omega) dX10_image_2 ?_
  refine s_aload_n C dX10_image_5 rfl ?_
  refine s_aload_n C dX10_image_6 rfl ?_
  refine s_get (k := 0) (x := (σ.1 71 0)) C y71 fw_X10_9 rfl rfl dX10_image_7 ?_
  refine s_put (k := 22) C y71 fw_X10_355 fp_9_22 rfl dX10_image_10 ?_
  refine s_aload_n C dX10_image_13 rfl ?_
  refine s_aload_n C dX10_image_14 rfl ?_
  refine s_get (k := 8) (x := (σ.1 71 8)) C y71 fw_X10_175 rfl rfl dX10_image_15 ?_
  refine s_put (k := 30) C y71 fw_X10_358 fp_9_30 rfl dX10_image_18 ?_
  refine s_aload_n C dX10_image_21 rfl ?_
  refine s_aload_n C dX10_image_22 rfl ?_
  refine s_get (k := 10) (x := (σ.1 71 10)) C y71 fw_X10_178 rfl rfl dX10_image_23 ?_
  refine s_put (k := 32) C y71 fw_X10_361 fp_9_32 rfl dX10_image_26 ?_
  refine s_aload_n C dX10_image_29 rfl ?_
  refine s_getr (k := 1) (j := 72) C y71 fw_X10_15 rfl dX10_image_30 ?_
  refine s_aload_n C dX10_image_33 rfl ?_
  refine s_getr (k := 23) (j := 89) C y71 fw_X10_68 rfl dX10_image_34 ?_
  refine s_callSV (st := []) C (c_X10_copyRow l ad 72 89 4 0 0 y72 y89 (by decide) (by decide) (sV (sV (sV (sV σ 71 21 z1) 71 22 (σ.1 71 0)) 71 30 (σ.1 71 8)) 71 32 (σ.1 71 10))) cv_X10_364 rfl rfl ⟨by decide, by decide⟩ (Nat.le_of_ble_eq_true rfl) dX10_image_37 ?_
  intro τ3 h4
  replace h4 : τ3 = (sR (sV (sV (sV (sV σ 71 21 z1) 71 22 (σ.1 71 0)) 71 30 (σ.1 71 8)) 71 32 (σ.1 71 10)) 89 (σ.1 72)) := h4; replace h4 := h4.symm; subst h4
  refine s_aload_n C dX10_image_40 rfl ?_
  refine s_getr (k := 2) (j := 73) C y71 fw_X10_19 rfl dX10_image_41 ?_
  refine s_aload_n C dX10_image_44 rfl ?_
  refine s_getr (k := 24) (j := 90) C y71 fw_X10_71 rfl dX10_image_45 ?_
  refine s_callSV (st := []) C (c_X10_copyRow l ad 73 90 4 0 0 y73 y90 (by decide) (by decide) (sR (sV (sV (sV (sV σ 71 21 z1) 71 22 (σ.1 71 0)) 71 30 (σ.1 71 8)) 71 32 (σ.1 71 10)) 89 (σ.1 72))) cv_X10_364 rfl rfl ⟨by decide, by decide⟩ (Nat.le_of_ble_eq_true rfl) dX10_image_48 ?_
  intro τ6 h7
  replace h7 : τ6 = (sR (sR (sV (sV (sV (sV σ 71 21 z1) 71 22 (σ.1 71 0)) 71 30 (σ.1 71 8)) 71 32 (σ.1 71 10)) 89 (σ.1 72)) 90 (σ.1 73)) := h7; replace h7 := h7.symm; subst h7
  refine s_aload_n C dX10_image_51 rfl ?_
  refine s_getr (k := 3) (j := 74) C y71 fw_X10_22 rfl dX10_image_52 ?_
  refine s_aload_n C dX10_image_55 rfl ?_
  refine s_getr (k := 25) (j := 91) C y71 fw_X10_74 rfl dX10_image_56 ?_
  refine s_callSV (st := []) C (c_X10_copyRow l ad 74 91 20 0 0 y74 y91 (by decide) (by decide) (sR (sR (sV (sV (sV (sV σ 71 21 z1) 71 22 (σ.1 71 0)) 71 30 (σ.1 71 8)) 71 32 (σ.1 71 10)) 89 (σ.1 72)) 90 (σ.1 73))) cv_X10_364 rfl rfl ⟨by decide, by decide⟩ (Nat.le_of_ble_eq_true rfl) dX10_image_59 ?_
  intro τ9 h10
  replace h10 : τ9 = (sR (sR (sR (sV (sV (sV (sV σ 71 21 z1) 71 22 (σ.1 71 0)) 71 30 (σ.1 71 8)) 71 32 (σ.1 71 10)) 89 (σ.1 72)) 90 (σ.1 73)) 91 (σ.1 74)) := h10; replace h10 := h10.symm; subst h10
  refine s_aload_n C dX10_image_62 rfl ?_
  refine s_getr (k := 4) (j := 75) C y71 fw_X10_25 rfl dX10_image_63 ?_
  refine s_aload_n C dX10_image_66 rfl ?_
  refine s_getr (k := 26) (j := 92) C y71 fw_X10_77 rfl dX10_image_67 ?_
  refine s_callSV (st := []) C (c_X10_copyRow l ad 75 92 20 0 0 y75 y92 (by decide) (by decide) (sR (sR (sR (sV (sV (sV (sV σ 71 21 z1) 71 22 (σ.1 71 0)) 71 30 (σ.1 71 8)) 71 32 (σ.1 71 10)) 89 (σ.1 72)) 90 (σ.1 73)) 91 (σ.1 74))) cv_X10_364 rfl rfl ⟨by decide, by decide⟩ (Nat.le_of_ble_eq_true rfl) dX10_image_70 ?_
  intro τ12 h13
  replace h13 : τ12 = (sR (sR (sR (sR (sV (sV (sV (sV σ 71 21 z1) 71 22 (σ.1 71 0)) 71 30 (σ.1 71 8)) 71 32 (σ.1 71 10)) 89 (σ.1 72)) 90 (σ.1 73)) 91 (σ.1 74)) 92 (σ.1 75)) := h13; replace h13 := h13.symm; subst h13
  refine s_aload_n C dX10_image_73 rfl ?_
  refine s_getr (k := 5) (j := 76) C y71 fw_X10_28 rfl dX10_image_74 ?_
  refine s_aload_n C dX10_image_77 rfl ?_
  refine s_getr (k := 27) (j := 93) C y71 fw_X10_80 rfl dX10_image_78 ?_
  refine s_callSV (st := []) C (c_X10_copyRow l ad 76 93 20 0 0 y76 y93 (by decide) (by decide) (sR (sR (sR (sR (sV (sV (sV (sV σ 71 21 z1) 71 22 (σ.1 71 0)) 71 30 (σ.1 71 8)) 71 32 (σ.1 71 10)) 89 (σ.1 72)) 90 (σ.1 73)) 91 (σ.1 74)) 92 (σ.1 75))) cv_X10_364 rfl rfl ⟨by decide, by decide⟩ (Nat.le_of_ble_eq_true rfl) dX10_image_81 ?_
  intro τ15 h16
  replace h16 : τ15 = (sR (sR (sR (sR (sR (sV (sV (sV (sV σ 71 21 z1) 71 22 (σ.1 71 0)) 71 30 (σ.1 71 8)) 71 32 (σ.1 71 10)) 89 (σ.1 72)) 90 (σ.1 73)) 91 (σ.1 74)) 92 (σ.1 75)) 93 (σ.1 76)) := h16; replace h16 := h16.symm; subst h16
  refine s_aload_n C dX10_image_84 rfl ?_
  refine s_getr (k := 6) (j := 77) C y71 fw_X10_31 rfl dX10_image_85 ?_
  refine s_aload_n C dX10_image_88 rfl ?_
  refine s_getr (k := 28) (j := 94) C y71 fw_X10_83 rfl dX10_image_89 ?_
  refine s_callSV (st := []) C (c_X10_copyRow l ad 77 94 20 0 0 y77 y94 (by decide) (by decide) (sR (sR (sR (sR (sR (sV (sV (sV (sV σ 71 21 z1) 71 22 (σ.1 71 0)) 71 30 (σ.1 71 8)) 71 32 (σ.1 71 10)) 89 (σ.1 72)) 90 (σ.1 73)) 91 (σ.1 74)) 92 (σ.1 75)) 93 (σ.1 76))) cv_X10_364 rfl rfl ⟨by decide, by decide⟩ (Nat.le_of_ble_eq_true rfl) dX10_image_92 ?_
  intro τ18 h19
  replace h19 : τ18 = (sR (sR (sR (sR (sR (sR (sV (sV (sV (sV σ 71 21 z1) 71 22 (σ.1 71 0)) 71 30 (σ.1 71 8)) 71 32 (σ.1 71 10)) 89 (σ.1 72)) 90 (σ.1 73)) 91 (σ.1 74)) 92 (σ.1 75)) 93 (σ.1 76)) 94 (σ.1 77)) := h19; replace h19 := h19.symm; subst h19
  refine s_aload_n C dX10_image_95 rfl ?_
  refine s_getr (k := 7) (j := 78) C y71 fw_X10_34 rfl dX10_image_96 ?_
  refine s_aload_n C dX10_image_99 rfl ?_
  refine s_getr (k := 29) (j := 95) C y71 fw_X10_86 rfl dX10_image_100 ?_
  refine s_callSV (st := []) C (c_X10_copyRow l ad 78 95 80 0 0 y78 y95 (by decide) (by decide) (sR (sR (sR (sR (sR (sR (sV (sV (sV (sV σ 71 21 z1) 71 22 (σ.1 71 0)) 71 30 (σ.1 71 8)) 71 32 (σ.1 71 10)) 89 (σ.1 72)) 90 (σ.1 73)) 91 (σ.1 74)) 92 (σ.1 75)) 93 (σ.1 76)) 94 (σ.1 77))) cv_X10_364 rfl rfl ⟨by decide, by decide⟩ (Nat.le_of_ble_eq_true rfl) dX10_image_103 ?_
  intro τ21 h22
  replace h22 : τ21 = (sR (sR (sR (sR (sR (sR (sR (sV (sV (sV (sV σ 71 21 z1) 71 22 (σ.1 71 0)) 71 30 (σ.1 71 8)) 71 32 (σ.1 71 10)) 89 (σ.1 72)) 90 (σ.1 73)) 91 (σ.1 74)) 92 (σ.1 75)) 93 (σ.1 76)) 94 (σ.1 77)) 95 (σ.1 78)) := h22; replace h22 := h22.symm; subst h22
  refine s_aload_n C dX10_image_106 rfl ?_
  refine s_getr (k := 9) (j := 79) C y71 fw_X10_37 rfl dX10_image_107 ?_
  refine s_aload_n C dX10_image_110 rfl ?_
  refine s_getr (k := 31) (j := 96) C y71 fw_X10_89 rfl dX10_image_111 ?_
  refine s_callSV (st := []) C (c_X10_copyRow l ad 79 96 20 0 0 y79 y96 (by decide) (by decide) (sR (sR (sR (sR (sR (sR (sR (sV (sV (sV (sV σ 71 21 z1) 71 22 (σ.1 71 0)) 71 30 (σ.1 71 8)) 71 32 (σ.1 71 10)) 89 (σ.1 72)) 90 (σ.1 73)) 91 (σ.1 74)) 92 (σ.1 75)) 93 (σ.1 76)) 94 (σ.1 77)) 95 (σ.1 78))) cv_X10_364 rfl rfl ⟨by decide, by decide⟩ (Nat.le_of_ble_eq_true rfl) dX10_image_114 ?_
  intro τ24 h25
  replace h25 : τ24 = (sR (sR (sR (sR (sR (sR (sR (sR (sV (sV (sV (sV σ 71 21 z1) 71 22 (σ.1 71 0)) 71 30 (σ.1 71 8)) 71 32 (σ.1 71 10)) 89 (σ.1 72)) 90 (σ.1 73)) 91 (σ.1 74)) 92 (σ.1 75)) 93 (σ.1 76)) 94 (σ.1 77)) 95 (σ.1 78)) 96 (σ.1 79)) := h25; replace h25 := h25.symm; subst h25
  refine s_aload_n C dX10_image_117 rfl ?_
  refine s_getr (k := 11) (j := 80) C y71 fw_X10_40 rfl dX10_image_118 ?_
  refine s_aload_n C dX10_image_121 rfl ?_
  refine s_getr (k := 33) (j := 97) C y71 fw_X10_92 rfl dX10_image_122 ?_
  refine s_callSV (st := []) C (c_X10_copyRow l ad 80 97 8 0 0 y80 y97 (by decide) (by decide) (sR (sR (sR (sR (sR (sR (sR (sR (sV (sV (sV (sV σ 71 21 z1) 71 22 (σ.1 71 0)) 71 30 (σ.1 71 8)) 71 32 (σ.1 71 10)) 89 (σ.1 72)) 90 (σ.1 73)) 91 (σ.1 74)) 92 (σ.1 75)) 93 (σ.1 76)) 94 (σ.1 77)) 95 (σ.1 78)) 96 (σ.1 79))) cv_X10_364 rfl rfl ⟨by decide, by decide⟩ (Nat.le_of_ble_eq_true rfl) dX10_image_125 ?_
  intro τ27 h28
  replace h28 : τ27 = (sR (sR (sR (sR (sR (sR (sR (sR (sR (sV (sV (sV (sV σ 71 21 z1) 71 22 (σ.1 71 0)) 71 30 (σ.1 71 8)) 71 32 (σ.1 71 10)) 89 (σ.1 72)) 90 (σ.1 73)) 91 (σ.1 74)) 92 (σ.1 75)) 93 (σ.1 76)) 94 (σ.1 77)) 95 (σ.1 78)) 96 (σ.1 79)) 97 (σ.1 80)) := h28; replace h28 := h28.symm; subst h28
  refine s_aload_n C dX10_image_128 rfl ?_
  refine s_getr (k := 12) (j := 81) C y71 fw_X10_43 rfl dX10_image_129 ?_
  refine s_aload_n C dX10_image_132 rfl ?_
  refine s_getr (k := 34) (j := 98) C y71 fw_X10_95 rfl dX10_image_133 ?_
  refine s_callSV (st := []) C (c_X10_copyRow l ad 81 98 8 0 0 y81 y98 (by decide) (by decide) (sR (sR (sR (sR (sR (sR (sR (sR (sR (sV (sV (sV (sV σ 71 21 z1) 71 22 (σ.1 71 0)) 71 30 (σ.1 71 8)) 71 32 (σ.1 71 10)) 89 (σ.1 72)) 90 (σ.1 73)) 91 (σ.1 74)) 92 (σ.1 75)) 93 (σ.1 76)) 94 (σ.1 77)) 95 (σ.1 78)) 96 (σ.1 79)) 97 (σ.1 80))) cv_X10_364 rfl rfl ⟨by decide, by decide⟩ (Nat.le_of_ble_eq_true rfl) dX10_image_136 ?_
  intro τ30 h31
  replace h31 : τ30 = (sR (sR (sR (sR (sR (sR (sR (sR (sR (sR (sV (sV (sV (sV σ 71 21 z1) 71 22 (σ.1 71 0)) 71 30 (σ.1 71 8)) 71 32 (σ.1 71 10)) 89 (σ.1 72)) 90 (σ.1 73)) 91 (σ.1 74)) 92 (σ.1 75)) 93 (σ.1 76)) 94 (σ.1 77)) 95 (σ.1 78)) 96 (σ.1 79)) 97 (σ.1 80)) 98 (σ.1 81)) := h31; replace h31 := h31.symm; subst h31
  refine s_aload_n C dX10_image_139 rfl ?_
  refine s_getr (k := 13) (j := 82) C y71 fw_X10_46 rfl dX10_image_140 ?_
  refine s_aload_n C dX10_image_143 rfl ?_
  refine s_getr (k := 35) (j := 99) C y71 fw_X10_98 rfl dX10_image_144 ?_
  refine s_callSV (st := []) C (c_X10_copyRow l ad 82 99 8 0 0 y82 y99 (by decide) (by decide) (sR (sR (sR (sR (sR (sR (sR (sR (sR (sR (sV (sV (sV (sV σ 71 21 z1) 71 22 (σ.1 71 0)) 71 30 (σ.1 71 8)) 71 32 (σ.1 71 10)) 89 (σ.1 72)) 90 (σ.1 73)) 91 (σ.1 74)) 92 (σ.1 75)) 93 (σ.1 76)) 94 (σ.1 77)) 95 (σ.1 78)) 96 (σ.1 79)) 97 (σ.1 80)) 98 (σ.1 81))) cv_X10_364 rfl rfl ⟨by decide, by decide⟩ (Nat.le_of_ble_eq_true rfl) dX10_image_147 ?_
  intro τ33 h34
  replace h34 : τ33 = (sR (sR (sR (sR (sR (sR (sR (sR (sR (sR (sR (sV (sV (sV (sV σ 71 21 z1) 71 22 (σ.1 71 0)) 71 30 (σ.1 71 8)) 71 32 (σ.1 71 10)) 89 (σ.1 72)) 90 (σ.1 73)) 91 (σ.1 74)) 92 (σ.1 75)) 93 (σ.1 76)) 94 (σ.1 77)) 95 (σ.1 78)) 96 (σ.1 79)) 97 (σ.1 80)) 98 (σ.1 81)) 99 (σ.1 82)) := h34; replace h34 := h34.symm; subst h34
  refine s_aload_n C dX10_image_150 rfl ?_
  refine s_getr (k := 14) (j := 83) C y71 fw_X10_49 rfl dX10_image_151 ?_
  refine s_aload_n C dX10_image_154 rfl ?_
  refine s_getr (k := 36) (j := 100) C y71 fw_X10_101 rfl dX10_image_155 ?_
  refine s_callSV (st := []) C (c_X10_copyRow l ad 83 100 8 0 0 y83 y100 (by decide) (by decide) (sR (sR (sR (sR (sR (sR (sR (sR (sR (sR (sR (sV (sV (sV (sV σ 71 21 z1) 71 22 (σ.1 71 0)) 71 30 (σ.1 71 8)) 71 32 (σ.1 71 10)) 89 (σ.1 72)) 90 (σ.1 73)) 91 (σ.1 74)) 92 (σ.1 75)) 93 (σ.1 76)) 94 (σ.1 77)) 95 (σ.1 78)) 96 (σ.1 79)) 97 (σ.1 80)) 98 (σ.1 81)) 99 (σ.1 82))) cv_X10_364 rfl rfl ⟨by decide, by decide⟩ (Nat.le_of_ble_eq_true rfl) dX10_image_158 ?_
  intro τ36 h37
  replace h37 : τ36 = (sR (sR (sR (sR (sR (sR (sR (sR (sR (sR (sR (sR (sV (sV (sV (sV σ 71 21 z1) 71 22 (σ.1 71 0)) 71 30 (σ.1 71 8)) 71 32 (σ.1 71 10)) 89 (σ.1 72)) 90 (σ.1 73)) 91 (σ.1 74)) 92 (σ.1 75)) 93 (σ.1 76)) 94 (σ.1 77)) 95 (σ.1 78)) 96 (σ.1 79)) 97 (σ.1 80)) 98 (σ.1 81)) 99 (σ.1 82)) 100 (σ.1 83)) := h37; replace h37 := h37.symm; subst h37
  refine s_aload_n C dX10_image_161 rfl ?_
  refine s_getr (k := 15) (j := 84) C y71 fw_X10_52 rfl dX10_image_162 ?_
  refine s_aload_n C dX10_image_165 rfl ?_
  refine s_getr (k := 37) (j := 101) C y71 fw_X10_104 rfl dX10_image_166 ?_
  refine s_callSV (st := []) C (c_X10_copyRow l ad 84 101 3 0 0 y84 y101 (by decide) (by decide) (sR (sR (sR (sR (sR (sR (sR (sR (sR (sR (sR (sR (sV (sV (sV (sV σ 71 21 z1) 71 22 (σ.1 71 0)) 71 30 (σ.1 71 8)) 71 32 (σ.1 71 10)) 89 (σ.1 72)) 90 (σ.1 73)) 91 (σ.1 74)) 92 (σ.1 75)) 93 (σ.1 76)) 94 (σ.1 77)) 95 (σ.1 78)) 96 (σ.1 79)) 97 (σ.1 80)) 98 (σ.1 81)) 99 (σ.1 82)) 100 (σ.1 83))) cv_X10_364 rfl rfl ⟨by decide, by decide⟩ (Nat.le_of_ble_eq_true rfl) dX10_image_169 ?_
  intro τ39 h40
  replace h40 : τ39 = (sR (sR (sR (sR (sR (sR (sR (sR (sR (sR (sR (sR (sR (sV (sV (sV (sV σ 71 21 z1) 71 22 (σ.1 71 0)) 71 30 (σ.1 71 8)) 71 32 (σ.1 71 10)) 89 (σ.1 72)) 90 (σ.1 73)) 91 (σ.1 74)) 92 (σ.1 75)) 93 (σ.1 76)) 94 (σ.1 77)) 95 (σ.1 78)) 96 (σ.1 79)) 97 (σ.1 80)) 98 (σ.1 81)) 99 (σ.1 82)) 100 (σ.1 83)) 101 (σ.1 84)) := h40; replace h40 := h40.symm; subst h40
  refine s_aload_n C dX10_image_172 rfl ?_
  refine s_getr (k := 16) (j := 85) C y71 fw_X10_55 rfl dX10_image_173 ?_
  refine s_aload_n C dX10_image_176 rfl ?_
  refine s_getr (k := 38) (j := 102) C y71 fw_X10_107 rfl dX10_image_177 ?_
  refine s_callSV (st := []) C (c_X10_copyRow l ad 85 102 180 0 0 y85 y102 (by decide) (by decide) (sR (sR (sR (sR (sR (sR (sR (sR (sR (sR (sR (sR (sR (sV (sV (sV (sV σ 71 21 z1) 71 22 (σ.1 71 0)) 71 30 (σ.1 71 8)) 71 32 (σ.1 71 10)) 89 (σ.1 72)) 90 (σ.1 73)) 91 (σ.1 74)) 92 (σ.1 75)) 93 (σ.1 76)) 94 (σ.1 77)) 95 (σ.1 78)) 96 (σ.1 79)) 97 (σ.1 80)) 98 (σ.1 81)) 99 (σ.1 82)) 100 (σ.1 83)) 101 (σ.1 84))) cv_X10_364 rfl rfl ⟨by decide, by decide⟩ (Nat.le_of_ble_eq_true rfl) dX10_image_180 ?_
  intro τ42 h43
  replace h43 : τ42 = (sR (sR (sR (sR (sR (sR (sR (sR (sR (sR (sR (sR (sR (sR (sV (sV (sV (sV σ 71 21 z1) 71 22 (σ.1 71 0)) 71 30 (σ.1 71 8)) 71 32 (σ.1 71 10)) 89 (σ.1 72)) 90 (σ.1 73)) 91 (σ.1 74)) 92 (σ.1 75)) 93 (σ.1 76)) 94 (σ.1 77)) 95 (σ.1 78)) 96 (σ.1 79)) 97 (σ.1 80)) 98 (σ.1 81)) 99 (σ.1 82)) 100 (σ.1 83)) 101 (σ.1 84)) 102 (σ.1 85)) := h43; replace h43 := h43.symm; subst h43
  refine s_aload_n C dX10_image_183 rfl ?_
  refine s_get (k := 8) (x := (σ.1 71 8)) C y71 fw_X10_175 rfl rfl dX10_image_184 ?_
  exact s_iret C X dX10_image_187 ⟨⟨hI.1, hI.2.1, hI.2.2.1, hI.2.2.2.1, hI.2.2.2.2.1, hI.2.2.2.2.2.1, fun _ => ⟨hI.1, hI.2.1, hI.2.2.2.2.1⟩⟩, (Fr.sR (Fr.sR (Fr.sR (Fr.sR (Fr.sR (Fr.sR (Fr.sR (Fr.sR (Fr.sR (Fr.sR (Fr.sR (Fr.sR (Fr.sR (Fr.sR (Fr.sV (Fr.sV (Fr.sV (Fr.sV Fr.rf (Or.inr (by decide))) (Or.inr (by decide))) (Or.inr (by decide))) (Or.inr (by decide))) (by decide)) (by decide)) (by decide)) (by decide)) (by decide)) (by decide)) (by decide)) (by decide)) (by decide)) (by decide)) (by decide)) (by decide)) (by decide)) (by decide)), rfl, rfl, by show Int32.toInt z1 = 1; omega⟩
set_option maxRecDepth 100000 in
theorem c2_X10_undo (l : Launch) (ad : Nat → Nat) (σ : Sg) (hI : IM σ.1) : Mt l yX10_undo cX10_undo 1 (some .int) 1 ad σ [.ref (ad 71)] (oI (fun r τ => IM τ.1 ∧ Fr [72, 73, 74, 75, 76, 77, 78, 79, 80, 81, 82, 83, 84, 85] [(71, 0), (71, 8), (71, 10), (71, 39)] σ τ ∧ (((σ.1 71 21).toInt = 0 ∧ τ.1 71 0 = σ.1 71 0 ∧ τ.1 72 = σ.1 72) ∨ (¬ (σ.1 71 21).toInt = 0 ∧ τ.1 71 0 = σ.1 71 22 ∧ τ.1 72 = σ.1 89)))) := by
  have hpr := hI.pr
  have htot := hI.tot
  have hms := hI.ms
  have htp := hI.tp
  refine Mt_intro (by decide +kernel) (by simp [lg_sl, Value.category]) (fun E C X => ?_)
  show WP E ad 0 [some (.ref (ad 71))] [] σ
  refine s_aload_n C dX10_undo_0 rfl ?_
  refine s_get (k := 21) (x := (σ.1 71 21)) C y71 fw_X10_352 rfl rfl dX10_undo_1 ?_
  refine s_if_ne (tgt := 10) C dX10_undo_4 (by decide) (fun q1 => ?_) (fun q1 => ?_)
  · refine s_aload_n C dX10_undo_10 rfl ?_
    refine s_aload_n C dX10_undo_11 rfl ?_
    refine s_get (k := 22) (x := (σ.1 71 22)) C y71 fw_X10_355 rfl rfl dX10_undo_12 ?_
    refine s_put (k := 0) C y71 fw_X10_9 fp_9_0 rfl dX10_undo_15 ?_
    refine s_aload_n C dX10_undo_18 rfl ?_
    refine s_aload_n C dX10_undo_19 rfl ?_
    refine s_get (k := 30) (x := (σ.1 71 30)) C y71 fw_X10_358 rfl rfl dX10_undo_20 ?_
    refine s_put (k := 8) C y71 fw_X10_175 fp_9_8 rfl dX10_undo_23 ?_
    refine s_aload_n C dX10_undo_26 rfl ?_
    refine s_aload_n C dX10_undo_27 rfl ?_
    refine s_get (k := 32) (x := (σ.1 71 32)) C y71 fw_X10_361 rfl rfl dX10_undo_28 ?_
    refine s_put (k := 10) C y71 fw_X10_178 fp_9_10 rfl dX10_undo_31 ?_
    refine s_aload_n C dX10_undo_34 rfl ?_
    refine s_getr (k := 23) (j := 89) C y71 fw_X10_68 rfl dX10_undo_35 ?_
    refine s_aload_n C dX10_undo_38 rfl ?_
    refine s_getr (k := 1) (j := 72) C y71 fw_X10_15 rfl dX10_undo_39 ?_
    refine s_callSV (st := []) C (c_X10_copyRow l ad 89 72 4 0 0 y89 y72 (by decide) (by decide) (sV (sV (sV σ 71 0 (σ.1 71 22)) 71 8 (σ.1 71 30)) 71 10 (σ.1 71 32))) cv_X10_364 rfl rfl ⟨by decide, by decide⟩ (Nat.le_of_ble_eq_true rfl) dX10_undo_42 ?_
    intro τ3 h4
    replace h4 : τ3 = (sR (sV (sV (sV σ 71 0 (σ.1 71 22)) 71 8 (σ.1 71 30)) 71 10 (σ.1 71 32)) 72 (σ.1 89)) := h4; replace h4 := h4.symm; subst h4
    refine s_aload_n C dX10_undo_45 rfl ?_
    refine s_getr (k := 24) (j := 90) C y71 fw_X10_71 rfl dX10_undo_46 ?_
    refine s_aload_n C dX10_undo_49 rfl ?_
    refine s_getr (k := 2) (j := 73) C y71 fw_X10_19 rfl dX10_undo_50 ?_
    refine s_callSV (st := []) C (c_X10_copyRow l ad 90 73 4 0 0 y90 y73 (by decide) (by decide) (sR (sV (sV (sV σ 71 0 (σ.1 71 22)) 71 8 (σ.1 71 30)) 71 10 (σ.1 71 32)) 72 (σ.1 89))) cv_X10_364 rfl rfl ⟨by decide, by decide⟩ (Nat.le_of_ble_eq_true rfl) dX10_undo_53 ?_
    intro τ6 h7
    replace h7 : τ6 = (sR (sR (sV (sV (sV σ 71 0 (σ.1 71 22)) 71 8 (σ.1 71 30)) 71 10 (σ.1 71 32)) 72 (σ.1 89)) 73 (σ.1 90)) := h7; replace h7 := h7.symm; subst h7
    refine s_aload_n C dX10_undo_56 rfl ?_
    refine s_getr (k := 25) (j := 91) C y71 fw_X10_74 rfl dX10_undo_57 ?_
    refine s_aload_n C dX10_undo_60 rfl ?_
    refine s_getr (k := 3) (j := 74) C y71 fw_X10_22 rfl dX10_undo_61 ?_
    refine s_callSV (st := []) C (c_X10_copyRow l ad 91 74 20 0 0 y91 y74 (by decide) (by decide) (sR (sR (sV (sV (sV σ 71 0 (σ.1 71 22)) 71 8 (σ.1 71 30)) 71 10 (σ.1 71 32)) 72 (σ.1 89)) 73 (σ.1 90))) cv_X10_364 rfl rfl ⟨by decide, by decide⟩ (Nat.le_of_ble_eq_true rfl) dX10_undo_64 ?_
    intro τ9 h10
    replace h10 : τ9 = (sR (sR (sR (sV (sV (sV σ 71 0 (σ.1 71 22)) 71 8 (σ.1 71 30)) 71 10 (σ.1 71 32)) 72 (σ.1 89)) 73 (σ.1 90)) 74 (σ.1 91)) := h10; replace h10 := h10.symm; subst h10
    refine s_aload_n C dX10_undo_67 rfl ?_
    refine s_getr (k := 26) (j := 92) C y71 fw_X10_77 rfl dX10_undo_68 ?_
    refine s_aload_n C dX10_undo_71 rfl ?_
    refine s_getr (k := 4) (j := 75) C y71 fw_X10_25 rfl dX10_undo_72 ?_
    refine s_callSV (st := []) C (c_X10_copyRow l ad 92 75 20 0 0 y92 y75 (by decide) (by decide) (sR (sR (sR (sV (sV (sV σ 71 0 (σ.1 71 22)) 71 8 (σ.1 71 30)) 71 10 (σ.1 71 32)) 72 (σ.1 89)) 73 (σ.1 90)) 74 (σ.1 91))) cv_X10_364 rfl rfl ⟨by decide, by decide⟩ (Nat.le_of_ble_eq_true rfl) dX10_undo_75 ?_
    intro τ12 h13
    replace h13 : τ12 = (sR (sR (sR (sR (sV (sV (sV σ 71 0 (σ.1 71 22)) 71 8 (σ.1 71 30)) 71 10 (σ.1 71 32)) 72 (σ.1 89)) 73 (σ.1 90)) 74 (σ.1 91)) 75 (σ.1 92)) := h13; replace h13 := h13.symm; subst h13
    refine s_aload_n C dX10_undo_78 rfl ?_
    refine s_getr (k := 27) (j := 93) C y71 fw_X10_80 rfl dX10_undo_79 ?_
    refine s_aload_n C dX10_undo_82 rfl ?_
    refine s_getr (k := 5) (j := 76) C y71 fw_X10_28 rfl dX10_undo_83 ?_
    refine s_callSV (st := []) C (c_X10_copyRow l ad 93 76 20 0 0 y93 y76 (by decide) (by decide) (sR (sR (sR (sR (sV (sV (sV σ 71 0 (σ.1 71 22)) 71 8 (σ.1 71 30)) 71 10 (σ.1 71 32)) 72 (σ.1 89)) 73 (σ.1 90)) 74 (σ.1 91)) 75 (σ.1 92))) cv_X10_364 rfl rfl ⟨by decide, by decide⟩ (Nat.le_of_ble_eq_true rfl) dX10_undo_86 ?_
    intro τ15 h16
    replace h16 : τ15 = (sR (sR (sR (sR (sR (sV (sV (sV σ 71 0 (σ.1 71 22)) 71 8 (σ.1 71 30)) 71 10 (σ.1 71 32)) 72 (σ.1 89)) 73 (σ.1 90)) 74 (σ.1 91)) 75 (σ.1 92)) 76 (σ.1 93)) := h16; replace h16 := h16.symm; subst h16
    refine s_aload_n C dX10_undo_89 rfl ?_
    refine s_getr (k := 28) (j := 94) C y71 fw_X10_83 rfl dX10_undo_90 ?_
    refine s_aload_n C dX10_undo_93 rfl ?_
    refine s_getr (k := 6) (j := 77) C y71 fw_X10_31 rfl dX10_undo_94 ?_
    refine s_callSV (st := []) C (c_X10_copyRow l ad 94 77 20 0 0 y94 y77 (by decide) (by decide) (sR (sR (sR (sR (sR (sV (sV (sV σ 71 0 (σ.1 71 22)) 71 8 (σ.1 71 30)) 71 10 (σ.1 71 32)) 72 (σ.1 89)) 73 (σ.1 90)) 74 (σ.1 91)) 75 (σ.1 92)) 76 (σ.1 93))) cv_X10_364 rfl rfl ⟨by decide, by decide⟩ (Nat.le_of_ble_eq_true rfl) dX10_undo_97 ?_
    intro τ18 h19
    replace h19 : τ18 = (sR (sR (sR (sR (sR (sR (sV (sV (sV σ 71 0 (σ.1 71 22)) 71 8 (σ.1 71 30)) 71 10 (σ.1 71 32)) 72 (σ.1 89)) 73 (σ.1 90)) 74 (σ.1 91)) 75 (σ.1 92)) 76 (σ.1 93)) 77 (σ.1 94)) := h19; replace h19 := h19.symm; subst h19
    refine s_aload_n C dX10_undo_100 rfl ?_
    refine s_getr (k := 29) (j := 95) C y71 fw_X10_86 rfl dX10_undo_101 ?_
    refine s_aload_n C dX10_undo_104 rfl ?_
    refine s_getr (k := 7) (j := 78) C y71 fw_X10_34 rfl dX10_undo_105 ?_
    refine s_callSV (st := []) C (c_X10_copyRow l ad 95 78 80 0 0 y95 y78 (by decide) (by decide) (sR (sR (sR (sR (sR (sR (sV (sV (sV σ 71 0 (σ.1 71 22)) 71 8 (σ.1 71 30)) 71 10 (σ.1 71 32)) 72 (σ.1 89)) 73 (σ.1 90)) 74 (σ.1 91)) 75 (σ.1 92)) 76 (σ.1 93)) 77 (σ.1 94))) cv_X10_364 rfl rfl ⟨by decide, by decide⟩ (Nat.le_of_ble_eq_true rfl) dX10_undo_108 ?_
    intro τ21 h22
    replace h22 : τ21 = (sR (sR (sR (sR (sR (sR (sR (sV (sV (sV σ 71 0 (σ.1 71 22)) 71 8 (σ.1 71 30)) 71 10 (σ.1 71 32)) 72 (σ.1 89)) 73 (σ.1 90)) 74 (σ.1 91)) 75 (σ.1 92)) 76 (σ.1 93)) 77 (σ.1 94)) 78 (σ.1 95)) := h22; replace h22 := h22.symm; subst h22
    refine s_aload_n C dX10_undo_111 rfl ?_
    refine s_getr (k := 31) (j := 96) C y71 fw_X10_89 rfl dX10_undo_112 ?_
    refine s_aload_n C dX10_undo_115 rfl ?_
    refine s_getr (k := 9) (j := 79) C y71 fw_X10_37 rfl dX10_undo_116 ?_
    refine s_callSV (st := []) C (c_X10_copyRow l ad 96 79 20 0 0 y96 y79 (by decide) (by decide) (sR (sR (sR (sR (sR (sR (sR (sV (sV (sV σ 71 0 (σ.1 71 22)) 71 8 (σ.1 71 30)) 71 10 (σ.1 71 32)) 72 (σ.1 89)) 73 (σ.1 90)) 74 (σ.1 91)) 75 (σ.1 92)) 76 (σ.1 93)) 77 (σ.1 94)) 78 (σ.1 95))) cv_X10_364 rfl rfl ⟨by decide, by decide⟩ (Nat.le_of_ble_eq_true rfl) dX10_undo_119 ?_
    intro τ24 h25
    replace h25 : τ24 = (sR (sR (sR (sR (sR (sR (sR (sR (sV (sV (sV σ 71 0 (σ.1 71 22)) 71 8 (σ.1 71 30)) 71 10 (σ.1 71 32)) 72 (σ.1 89)) 73 (σ.1 90)) 74 (σ.1 91)) 75 (σ.1 92)) 76 (σ.1 93)) 77 (σ.1 94)) 78 (σ.1 95)) 79 (σ.1 96)) := h25; replace h25 := h25.symm; subst h25
    refine s_aload_n C dX10_undo_122 rfl ?_
    refine s_getr (k := 33) (j := 97) C y71 fw_X10_92 rfl dX10_undo_123 ?_
    refine s_aload_n C dX10_undo_126 rfl ?_
    refine s_getr (k := 11) (j := 80) C y71 fw_X10_40 rfl dX10_undo_127 ?_
    refine s_callSV (st := []) C (c_X10_copyRow l ad 97 80 8 0 0 y97 y80 (by decide) (by decide) (sR (sR (sR (sR (sR (sR (sR (sR (sV (sV (sV σ 71 0 (σ.1 71 22)) 71 8 (σ.1 71 30)) 71 10 (σ.1 71 32)) 72 (σ.1 89)) 73 (σ.1 90)) 74 (σ.1 91)) 75 (σ.1 92)) 76 (σ.1 93)) 77 (σ.1 94)) 78 (σ.1 95)) 79 (σ.1 96))) cv_X10_364 rfl rfl ⟨by decide, by decide⟩ (Nat.le_of_ble_eq_true rfl) dX10_undo_130 ?_
    intro τ27 h28
    replace h28 : τ27 = (sR (sR (sR (sR (sR (sR (sR (sR (sR (sV (sV (sV σ 71 0 (σ.1 71 22)) 71 8 (σ.1 71 30)) 71 10 (σ.1 71 32)) 72 (σ.1 89)) 73 (σ.1 90)) 74 (σ.1 91)) 75 (σ.1 92)) 76 (σ.1 93)) 77 (σ.1 94)) 78 (σ.1 95)) 79 (σ.1 96)) 80 (σ.1 97)) := h28; replace h28 := h28.symm; subst h28
    refine s_aload_n C dX10_undo_133 rfl ?_
    refine s_getr (k := 34) (j := 98) C y71 fw_X10_95 rfl dX10_undo_134 ?_
    refine s_aload_n C dX10_undo_137 rfl ?_
    refine s_getr (k := 12) (j := 81) C y71 fw_X10_43 rfl dX10_undo_138 ?_
    refine s_callSV (st := []) C (c_X10_copyRow l ad 98 81 8 0 0 y98 y81 (by decide) (by decide) (sR (sR (sR (sR (sR (sR (sR (sR (sR (sV (sV (sV σ 71 0 (σ.1 71 22)) 71 8 (σ.1 71 30)) 71 10 (σ.1 71 32)) 72 (σ.1 89)) 73 (σ.1 90)) 74 (σ.1 91)) 75 (σ.1 92)) 76 (σ.1 93)) 77 (σ.1 94)) 78 (σ.1 95)) 79 (σ.1 96)) 80 (σ.1 97))) cv_X10_364 rfl rfl ⟨by decide, by decide⟩ (Nat.le_of_ble_eq_true rfl) dX10_undo_141 ?_
    intro τ30 h31
    replace h31 : τ30 = (sR (sR (sR (sR (sR (sR (sR (sR (sR (sR (sV (sV (sV σ 71 0 (σ.1 71 22)) 71 8 (σ.1 71 30)) 71 10 (σ.1 71 32)) 72 (σ.1 89)) 73 (σ.1 90)) 74 (σ.1 91)) 75 (σ.1 92)) 76 (σ.1 93)) 77 (σ.1 94)) 78 (σ.1 95)) 79 (σ.1 96)) 80 (σ.1 97)) 81 (σ.1 98)) := h31; replace h31 := h31.symm; subst h31
    refine s_aload_n C dX10_undo_144 rfl ?_
    refine s_getr (k := 35) (j := 99) C y71 fw_X10_98 rfl dX10_undo_145 ?_
    refine s_aload_n C dX10_undo_148 rfl ?_
    refine s_getr (k := 13) (j := 82) C y71 fw_X10_46 rfl dX10_undo_149 ?_
    refine s_callSV (st := []) C (c_X10_copyRow l ad 99 82 8 0 0 y99 y82 (by decide) (by decide) (sR (sR (sR (sR (sR (sR (sR (sR (sR (sR (sV (sV (sV σ 71 0 (σ.1 71 22)) 71 8 (σ.1 71 30)) 71 10 (σ.1 71 32)) 72 (σ.1 89)) 73 (σ.1 90)) 74 (σ.1 91)) 75 (σ.1 92)) 76 (σ.1 93)) 77 (σ.1 94)) 78 (σ.1 95)) 79 (σ.1 96)) 80 (σ.1 97)) 81 (σ.1 98))) cv_X10_364 rfl rfl ⟨by decide, by decide⟩ (Nat.le_of_ble_eq_true rfl) dX10_undo_152 ?_
    intro τ33 h34
    replace h34 : τ33 = (sR (sR (sR (sR (sR (sR (sR (sR (sR (sR (sR (sV (sV (sV σ 71 0 (σ.1 71 22)) 71 8 (σ.1 71 30)) 71 10 (σ.1 71 32)) 72 (σ.1 89)) 73 (σ.1 90)) 74 (σ.1 91)) 75 (σ.1 92)) 76 (σ.1 93)) 77 (σ.1 94)) 78 (σ.1 95)) 79 (σ.1 96)) 80 (σ.1 97)) 81 (σ.1 98)) 82 (σ.1 99)) := h34; replace h34 := h34.symm; subst h34
    refine s_aload_n C dX10_undo_155 rfl ?_
    refine s_getr (k := 36) (j := 100) C y71 fw_X10_101 rfl dX10_undo_156 ?_
    refine s_aload_n C dX10_undo_159 rfl ?_
    refine s_getr (k := 14) (j := 83) C y71 fw_X10_49 rfl dX10_undo_160 ?_
    refine s_callSV (st := []) C (c_X10_copyRow l ad 100 83 8 0 0 y100 y83 (by decide) (by decide) (sR (sR (sR (sR (sR (sR (sR (sR (sR (sR (sR (sV (sV (sV σ 71 0 (σ.1 71 22)) 71 8 (σ.1 71 30)) 71 10 (σ.1 71 32)) 72 (σ.1 89)) 73 (σ.1 90)) 74 (σ.1 91)) 75 (σ.1 92)) 76 (σ.1 93)) 77 (σ.1 94)) 78 (σ.1 95)) 79 (σ.1 96)) 80 (σ.1 97)) 81 (σ.1 98)) 82 (σ.1 99))) cv_X10_364 rfl rfl ⟨by decide, by decide⟩ (Nat.le_of_ble_eq_true rfl) dX10_undo_163 ?_
    intro τ36 h37
    replace h37 : τ36 = (sR (sR (sR (sR (sR (sR (sR (sR (sR (sR (sR (sR (sV (sV (sV σ 71 0 (σ.1 71 22)) 71 8 (σ.1 71 30)) 71 10 (σ.1 71 32)) 72 (σ.1 89)) 73 (σ.1 90)) 74 (σ.1 91)) 75 (σ.1 92)) 76 (σ.1 93)) 77 (σ.1 94)) 78 (σ.1 95)) 79 (σ.1 96)) 80 (σ.1 97)) 81 (σ.1 98)) 82 (σ.1 99)) 83 (σ.1 100)) := h37; replace h37 := h37.symm; subst h37
    refine s_aload_n C dX10_undo_166 rfl ?_
    refine s_getr (k := 37) (j := 101) C y71 fw_X10_104 rfl dX10_undo_167 ?_
    refine s_aload_n C dX10_undo_170 rfl ?_
    refine s_getr (k := 15) (j := 84) C y71 fw_X10_52 rfl dX10_undo_171 ?_
    refine s_callSV (st := []) C (c_X10_copyRow l ad 101 84 3 0 0 y101 y84 (by decide) (by decide) (sR (sR (sR (sR (sR (sR (sR (sR (sR (sR (sR (sR (sV (sV (sV σ 71 0 (σ.1 71 22)) 71 8 (σ.1 71 30)) 71 10 (σ.1 71 32)) 72 (σ.1 89)) 73 (σ.1 90)) 74 (σ.1 91)) 75 (σ.1 92)) 76 (σ.1 93)) 77 (σ.1 94)) 78 (σ.1 95)) 79 (σ.1 96)) 80 (σ.1 97)) 81 (σ.1 98)) 82 (σ.1 99)) 83 (σ.1 100))) cv_X10_364 rfl rfl ⟨by decide, by decide⟩ (Nat.le_of_ble_eq_true rfl) dX10_undo_174 ?_
    intro τ39 h40
    replace h40 : τ39 = (sR (sR (sR (sR (sR (sR (sR (sR (sR (sR (sR (sR (sR (sV (sV (sV σ 71 0 (σ.1 71 22)) 71 8 (σ.1 71 30)) 71 10 (σ.1 71 32)) 72 (σ.1 89)) 73 (σ.1 90)) 74 (σ.1 91)) 75 (σ.1 92)) 76 (σ.1 93)) 77 (σ.1 94)) 78 (σ.1 95)) 79 (σ.1 96)) 80 (σ.1 97)) 81 (σ.1 98)) 82 (σ.1 99)) 83 (σ.1 100)) 84 (σ.1 101)) := h40; replace h40 := h40.symm; subst h40
    refine s_aload_n C dX10_undo_177 rfl ?_
    refine s_getr (k := 38) (j := 102) C y71 fw_X10_107 rfl dX10_undo_178 ?_
    refine s_aload_n C dX10_undo_181 rfl ?_
    refine s_getr (k := 16) (j := 85) C y71 fw_X10_55 rfl dX10_undo_182 ?_
    refine s_callSV (st := []) C (c_X10_copyRow l ad 102 85 180 0 0 y102 y85 (by decide) (by decide) (sR (sR (sR (sR (sR (sR (sR (sR (sR (sR (sR (sR (sR (sV (sV (sV σ 71 0 (σ.1 71 22)) 71 8 (σ.1 71 30)) 71 10 (σ.1 71 32)) 72 (σ.1 89)) 73 (σ.1 90)) 74 (σ.1 91)) 75 (σ.1 92)) 76 (σ.1 93)) 77 (σ.1 94)) 78 (σ.1 95)) 79 (σ.1 96)) 80 (σ.1 97)) 81 (σ.1 98)) 82 (σ.1 99)) 83 (σ.1 100)) 84 (σ.1 101))) cv_X10_364 rfl rfl ⟨by decide, by decide⟩ (Nat.le_of_ble_eq_true rfl) dX10_undo_185 ?_
    intro τ42 h43
    replace h43 : τ42 = (sR (sR (sR (sR (sR (sR (sR (sR (sR (sR (sR (sR (sR (sR (sV (sV (sV σ 71 0 (σ.1 71 22)) 71 8 (σ.1 71 30)) 71 10 (σ.1 71 32)) 72 (σ.1 89)) 73 (σ.1 90)) 74 (σ.1 91)) 75 (σ.1 92)) 76 (σ.1 93)) 77 (σ.1 94)) 78 (σ.1 95)) 79 (σ.1 96)) 80 (σ.1 97)) 81 (σ.1 98)) 82 (σ.1 99)) 83 (σ.1 100)) 84 (σ.1 101)) 85 (σ.1 102)) := h43; replace h43 := h43.symm; subst h43
    refine s_aload_n C dX10_undo_188 rfl ?_
    refine s_iconst C dX10_undo_189 (by decide) (fun z44 tz44 => ?_)
    refine s_putz (k := 39) C y71 fw_X10_181 fp_9_39 rfl (by omega) dX10_undo_190 ?_
    refine s_aload_n C dX10_undo_193 rfl ?_
    refine s_get (k := 8) (x := (σ.1 71 30)) C y71 fw_X10_175 rfl rfl dX10_undo_194 ?_
    exact s_iret C X dX10_undo_197 ⟨(by have hg := hI.2.2.2.2.2.2 (by omega); exact ⟨hg.1, hg.2.1, hI.2.2.1, hI.2.2.2.1, hg.2.2, cu_off hI.2.2.2.2.2.1 (by show Int32.toInt z44 = 0; omega), hI.2.2.2.2.2.2⟩), (Fr.sV (Fr.sR (Fr.sR (Fr.sR (Fr.sR (Fr.sR (Fr.sR (Fr.sR (Fr.sR (Fr.sR (Fr.sR (Fr.sR (Fr.sR (Fr.sR (Fr.sR (Fr.sV (Fr.sV (Fr.sV Fr.rf (Or.inr (by decide))) (Or.inr (by decide))) (Or.inr (by decide))) (by decide)) (by decide)) (by decide)) (by decide)) (by decide)) (by decide)) (by decide)) (by decide)) (by decide)) (by decide)) (by decide)) (by decide)) (by decide)) (by decide)) (Or.inr (by decide))), Or.inr ⟨by omega, rfl, rfl⟩⟩
  · refine s_bipush C dX10_undo_7 (by decide) (fun z45 tz45 => ?_)
    exact s_iret C X dX10_undo_9 ⟨hI, Fr.rf, Or.inl ⟨by omega, rfl, rfl⟩⟩
set_option maxRecDepth 100000 in
theorem L2_processes2 (l : Launch) (ad : Nat → Nat) (E : Ev) (σ : Sg) (hI : IM σ.1) (n2 : Int32) (hw : n2 = σ.1 71 0) (n : Int32) (hn : 1 ≤ n.toInt ∧ n.toInt ≤ 4) (C : Cx E l (rmk 1) 4 cX10_processes RX10) (X : Rx E ad (some .int) (oI (fun r τ => IM τ.1 ∧ Fr [72, 73, 84] [(71, 0), (71, 8), (71, 10), (71, 39)] σ τ ∧ (((1 ≤ n.toInt ∧ n.toInt ≤ 4) ∧ r = σ.1 71 0 ∧ τ.1 71 0 = n ∧ ∀ j : Nat, (j : Int) < 4 → (τ.1 72 j).toInt = 0) ∨ (¬ (1 ≤ n.toInt ∧ n.toInt ≤ 4) ∧ r.toInt = -2 ∧ τ.1 71 0 = σ.1 71 0 ∧ τ.1 72 = σ.1 72)))))  : ∀ (mm : Nat) (τ : Sg) (z : Int32), (Fr [72, 73, 84] [(71, 0), (71, 8), (71, 10), (71, 39)] σ τ) → (τ.1 71 0 = n) → ((τ.1 71 8).toInt = 0) → ((τ.1 71 10).toInt = 0) → (∀ j : Nat, (j : Int) < 4 → (τ.1 72 j).toInt = 0) → (∀ j : Nat, (j : Int) < 4 → (τ.1 73 j).toInt = 0) → (∀ j, 0 ≤ (τ.1 73 j).toInt ∧ (τ.1 73 j).toInt ≤ 5) → (∀ j, 0 ≤ (τ.1 84 j).toInt ∧ (τ.1 84 j).toInt ≤ 60) → (∀ j : Nat, (j : Int) < z.toInt → (τ.1 84 j).toInt = 0) → (0 ≤ z.toInt ∧ z.toInt ≤ 3) → (3 - z.toInt).toNat < mm → WP E ad 64 [some (.ref (ad 71)), some (.int n), some (.int n2), some (.int z)] [] τ := by
  intro mm
  induction mm with
  | zero => intro τ z kF k0 k1 k2 ks kz kB kT hz h0 hm9; exact absurd hm9 (Nat.not_lt_zero _)
  | succ mm ih =>
    intro τ z kF k0 k1 k2 ks kz kB kT hz h0 hm9
    refine s_iload_n C dX10_processes_64 rfl ?_
    refine s_iconst C dX10_processes_65 (by decide) (fun z1 tz1 => ?_)
    refine s_icmp_ge (tgt := 82) C dX10_processes_66 (by decide) (fun q2 => ?_) (fun q2 => ?_)
    · refine s_aload_n C dX10_processes_82 rfl ?_
      refine s_iconst C dX10_processes_83 (by decide) (fun z3 tz3 => ?_)
      refine s_putz (k := 39) C y71 fw_X10_181 fp_9_39 rfl (by omega) dX10_processes_84 ?_
      refine s_iload_n C dX10_processes_87 rfl ?_
      exact s_iret C X dX10_processes_88 ⟨im_new hI kF k0 k1 k2 hn kz kB kT (fun j hj => hz j (by omega)) (by omega), (Fr.sV (Fr.tr Fr.rf (Fr.mo kF (by decide) (by decide))) (Or.inr (by decide))), Or.inl ⟨hn, hw, k0, ks⟩⟩
    · refine s_aload_n C dX10_processes_69 rfl ?_
      refine s_getr (k := 15) (j := 84) C y71 fw_X10_52 rfl dX10_processes_70 ?_
      refine s_iload_n C dX10_processes_73 rfl ?_
      refine s_iconst C dX10_processes_74 (by decide) (fun z4 tz4 => ?_)
      refine s_iast C y84 (by omega) dX10_processes_75 ?_
      refine s_iinc C dX10_processes_76 rfl (by decide) rfl (by decide) (by omega) (fun z5 tz5 => ?_)
      show WP E ad 79 [some (.ref (ad 71)), some (.int n), some (.int n2), some (.int z5)] [] (sV τ 84 z.toNatClampNeg z4)
      refine s_goto (tgt := 64) C dX10_processes_79 (by decide) ?_
      exact ih (sV τ 84 z.toNatClampNeg z4) z5 (Fr.sV (Fr.tr Fr.rf (Fr.mo kF (by decide) (by decide))) (Or.inl (by decide))) k0 k1 k2 ks kz kB (up_iv kT _ (by omega)) (up_z hz (by omega) (by omega) (by omega)) (by omega) (by omega)
set_option maxRecDepth 100000 in
theorem L2_processes1 (l : Launch) (ad : Nat → Nat) (E : Ev) (σ : Sg) (hI : IM σ.1) (n2 : Int32) (hw : n2 = σ.1 71 0) (n : Int32) (hn : 1 ≤ n.toInt ∧ n.toInt ≤ 4) (C : Cx E l (rmk 1) 4 cX10_processes RX10) (X : Rx E ad (some .int) (oI (fun r τ => IM τ.1 ∧ Fr [72, 73, 84] [(71, 0), (71, 8), (71, 10), (71, 39)] σ τ ∧ (((1 ≤ n.toInt ∧ n.toInt ≤ 4) ∧ r = σ.1 71 0 ∧ τ.1 71 0 = n ∧ ∀ j : Nat, (j : Int) < 4 → (τ.1 72 j).toInt = 0) ∨ (¬ (1 ≤ n.toInt ∧ n.toInt ≤ 4) ∧ r.toInt = -2 ∧ τ.1 71 0 = σ.1 71 0 ∧ τ.1 72 = σ.1 72)))))  : ∀ (mm : Nat) (τ : Sg) (z : Int32), (Fr [72, 73] [(71, 0), (71, 8), (71, 10), (71, 39)] σ τ) → (τ.1 71 0 = n) → ((τ.1 71 8).toInt = 0) → ((τ.1 71 10).toInt = 0) → (∀ j, 0 ≤ (τ.1 73 j).toInt ∧ (τ.1 73 j).toInt ≤ 5) → (∀ j : Nat, (j : Int) < z.toInt → (τ.1 72 j).toInt = 0) → (∀ j : Nat, (j : Int) < z.toInt → (τ.1 73 j).toInt = 0) → (0 ≤ z.toInt ∧ z.toInt ≤ 4) → (4 - z.toInt).toNat < mm → WP E ad 37 [some (.ref (ad 71)), some (.int n), some (.int n2), some (.int z)] [] τ := by
  intro mm
  induction mm with
  | zero => intro τ z kF k0 k1 k2 kB ks hz h0 hm9; exact absurd hm9 (Nat.not_lt_zero _)
  | succ mm ih =>
    intro τ z kF k0 k1 k2 kB ks hz h0 hm9
    refine s_iload_n C dX10_processes_37 rfl ?_
    refine s_iconst C dX10_processes_38 (by decide) (fun z1 tz1 => ?_)
    refine s_icmp_ge (tgt := 62) C dX10_processes_39 (by decide) (fun q2 => ?_) (fun q2 => ?_)
    · refine s_iconst C dX10_processes_62 (by decide) (fun z3 tz3 => ?_)
      refine s_istore_n C dX10_processes_63 (by decide) (Nat.le_of_ble_eq_true rfl) rfl ?_
      show WP E ad 64 [some (.ref (ad 71)), some (.int n), some (.int n2), some (.int z3)] [] τ
      exact L2_processes2 l ad E σ hI n2 hw n hn C X 100 τ z3 (kF.mo (by decide) (by decide)) k0 k1 k2 (fun j hj => ks j (by omega)) (fun j hj => hz j (by omega)) kB (by rw [kF.a 84 (by decide) (by decide)]; exact hI.tm) (fun j hj => by omega) (by omega) (by omega)
    · refine s_aload_n C dX10_processes_42 rfl ?_
      refine s_getr (k := 1) (j := 72) C y71 fw_X10_15 rfl dX10_processes_43 ?_
      refine s_iload_n C dX10_processes_46 rfl ?_
      refine s_iconst C dX10_processes_47 (by decide) (fun z4 tz4 => ?_)
      refine s_iast C y72 (by omega) dX10_processes_48 ?_
      refine s_aload_n C dX10_processes_49 rfl ?_
      refine s_getr (k := 2) (j := 73) C y71 fw_X10_19 rfl dX10_processes_50 ?_
      refine s_iload_n C dX10_processes_53 rfl ?_
      refine s_iconst C dX10_processes_54 (by decide) (fun z5 tz5 => ?_)
      refine s_iast C y73 (by omega) dX10_processes_55 ?_
      refine s_iinc C dX10_processes_56 rfl (by decide) rfl (by decide) (by omega) (fun z6 tz6 => ?_)
      show WP E ad 59 [some (.ref (ad 71)), some (.int n), some (.int n2), some (.int z6)] [] (sV (sV τ 72 z.toNatClampNeg z4) 73 z.toNatClampNeg z5)
      refine s_goto (tgt := 37) C dX10_processes_59 (by decide) ?_
      exact ih (sV (sV τ 72 z.toNatClampNeg z4) 73 z.toNatClampNeg z5) z6 (Fr.sV (Fr.sV (Fr.tr Fr.rf (Fr.mo kF (by decide) (by decide))) (Or.inl (by decide))) (Or.inl (by decide))) k0 k1 k2 (up_iv kB _ (by omega)) (up_z ks (by omega) (by omega) (by omega)) (up_z hz (by omega) (by omega) (by omega)) (by omega) (by omega)
set_option maxRecDepth 100000 in
theorem c2_X10_processes (l : Launch) (ad : Nat → Nat) (σ : Sg) (n : Int32) (hI : IM σ.1) : Mt l yX10_processes cX10_processes 4 (some .int) 1 ad σ [.ref (ad 71), .int n] (oI (fun r τ => IM τ.1 ∧ Fr [72, 73, 84] [(71, 0), (71, 8), (71, 10), (71, 39)] σ τ ∧ (((1 ≤ n.toInt ∧ n.toInt ≤ 4) ∧ r = σ.1 71 0 ∧ τ.1 71 0 = n ∧ ∀ j : Nat, (j : Int) < 4 → (τ.1 72 j).toInt = 0) ∨ (¬ (1 ≤ n.toInt ∧ n.toInt ≤ 4) ∧ r.toInt = -2 ∧ τ.1 71 0 = σ.1 71 0 ∧ τ.1 72 = σ.1 72)))) := by
  refine Mt_intro (by decide +kernel) (by simp [lg_sl, Value.category]) (fun E C X => ?_)
  show WP E ad 0 [some (.ref (ad 71)), some (.int n), none, none] [] σ
  refine s_iload_n C dX10_processes_0 rfl ?_
  refine s_i2l C dX10_processes_1 (fun L1 tL1 => ?_)
  refine s_lconst C dX10_processes_2 rfl (fun L2 tL2 => ?_)
  have tL2 : L2.toInt = 1 := tL2
  obtain ⟨L3, eL3⟩ : ∃ q : Int64, q = 4 := ⟨_, rfl⟩
  have tL3 : L3.toInt = 4 := by rw [eL3]; rfl
  refine s_ldc2 (v := L3) C dX10_processes_3 (by rw [eL3]; exact mw 1182 (by decide +kernel) rfl) ?_
  refine s_callSI (st := []) C (c_X10_in l ad σ L1 L2 L3 ) cv_X10_165 rfl rfl ⟨by decide, by decide⟩ (Nat.le_of_ble_eq_true rfl) dX10_processes_6 ?_
  intro r4 τ5 h6
  obtain ⟨eh6, h6⟩ := h6; replace eh6 := eh6.symm; subst eh6
  refine s_if_ne (tgt := 15) C dX10_processes_9 (by decide) (fun q7 => ?_) (fun q7 => ?_)
  · refine s_aload_n C dX10_processes_15 rfl ?_
    refine s_get (k := 0) (x := (σ.1 71 0)) C y71 fw_X10_9 rfl rfl dX10_processes_16 ?_
    refine s_istore_n C dX10_processes_19 (by decide) (Nat.le_of_ble_eq_true rfl) rfl ?_
    show WP E ad 20 [some (.ref (ad 71)), some (.int n), some (.int (σ.1 71 0)), none] [] σ
    refine s_aload_n C dX10_processes_20 rfl ?_
    refine s_iload_n C dX10_processes_21 rfl ?_
    refine s_put (k := 0) C y71 fw_X10_9 fp_9_0 rfl dX10_processes_22 ?_
    refine s_aload_n C dX10_processes_25 rfl ?_
    refine s_iconst C dX10_processes_26 (by decide) (fun z8 tz8 => ?_)
    refine s_put (k := 8) C y71 fw_X10_175 fp_9_8 rfl dX10_processes_27 ?_
    refine s_aload_n C dX10_processes_30 rfl ?_
    refine s_iconst C dX10_processes_31 (by decide) (fun z9 tz9 => ?_)
    refine s_put (k := 10) C y71 fw_X10_178 fp_9_10 rfl dX10_processes_32 ?_
    refine s_iconst C dX10_processes_35 (by decide) (fun z10 tz10 => ?_)
    refine s_istore_n C dX10_processes_36 (by decide) (Nat.le_of_ble_eq_true rfl) rfl ?_
    show WP E ad 37 [some (.ref (ad 71)), some (.int n), some (.int (σ.1 71 0)), some (.int z10)] [] (sV (sV (sV σ 71 0 n) 71 8 z8) 71 10 z9)
    exact L2_processes1 l ad E σ hI (σ.1 71 0) rfl n (by omega) C X 100 (sV (sV (sV σ 71 0 n) 71 8 z8) 71 10 z9) z10 (Fr.sV (Fr.sV (Fr.sV Fr.rf (Or.inr (by decide))) (Or.inr (by decide))) (Or.inr (by decide))) rfl (by show Int32.toInt z8 = 0; omega) (by show Int32.toInt z9 = 0; omega) hI.ev (fun j hj => by omega) (fun j hj => by omega) (by omega) (by omega)
  · refine s_bipush C dX10_processes_12 (by decide) (fun z11 tz11 => ?_)
    exact s_iret C X dX10_processes_14 ⟨hI, Fr.rf, Or.inr ⟨by omega, by omega, rfl, rfl⟩⟩
