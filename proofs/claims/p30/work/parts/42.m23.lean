set_option maxHeartbeats 10000000 in
set_option maxRecDepth 100000 in
theorem L_layMet (l : Launch) (ad : Nat → Nat) (E : Ev) (σ : Sg) (c : Int32) (hc : 0 ≤ c.toInt ∧ c.toInt ≤ 2) (C : Cx E l (rmk 6) 3 cX10_layMet RX10) (X : Rx E ad none (oV (fun τ => IM τ.1 ∧ ¬ (τ.1 71 39).toInt = 0 ∧ Fr [103, 104, 105, 106, 110, 111, 112, 113] [(71, 39), (71, 40), (71, 47), (71, 53), (71, 55)] σ τ)))  : ∀ (n : Nat) (τ : Sg) (z : Int32), (Fr [103, 104, 105, 106, 110, 111, 112, 113] [(71, 39), (71, 40), (71, 47), (71, 53), (71, 55)] σ τ) → (IM τ.1) → (¬ (τ.1 71 39).toInt = 0) → (0 < (τ.1 84 c.toNatClampNeg).toInt) → (0 ≤ z.toInt) → (1296 - z.toInt).toNat < n → WP E ad 11 [some (.ref (ad 71)), some (.int c), some (.int z)] [] τ := by
  intro n
  induction n with
  | zero => intro τ z kF kI hL ht h0 hm9; exact absurd hm9 (Nat.not_lt_zero _)
  | succ n ih =>
    intro τ z kF kI hL ht h0 hm9
    have hcb := kI.cu.1
    refine s_iload_n C dX10_layMet_11 rfl ?_
    refine s_aload_n C dX10_layMet_12 rfl ?_
    refine s_get (k := 40) (x := (τ.1 71 40)) C y71 fw_X10_208 rfl rfl dX10_layMet_13 ?_
    refine s_icmp_ge (tgt := 60) C dX10_layMet_16 (by decide) (fun q1 => ?_) (fun q1 => ?_)
    · exact s_vret C X dX10_layMet_60 ⟨kI, hL, kF⟩
    · refine s_aload_n C dX10_layMet_19 rfl ?_
      refine s_getr (k := 54) (j := 113) C y71 fw_X10_141 rfl dX10_layMet_20 ?_
      refine s_iload_n C dX10_layMet_23 rfl ?_
      refine s_aload_n C dX10_layMet_24 rfl ?_
      refine s_iload_n C dX10_layMet_25 rfl ?_
      refine s_iload_n C dX10_layMet_26 rfl ?_
      refine s_callVI (st := [.int z, .ref (ad 113)]) C (c_X10_meets l ad τ c z kI hc (by omega) ht) cv_X10_298 y71 rfl rfl rfl ⟨by decide, by decide⟩ (Nat.le_of_ble_eq_true rfl) dX10_layMet_27 ?_
      intro r2 τ3 h4
      have bh4 := h4.2
      have kIτ3 : IM τ3.1 := IM.keep kI h4.1 (by decide) (by decide) (by decide)
      have hLτ3 : ¬ (τ3.1 71 39).toInt = 0 := by rw [h4.1.f 71 39 (by decide) (by decide)]; exact hL
      have htτ3 : 0 < (τ3.1 84 c.toNatClampNeg).toInt := by rw [h4.1.a 84 (by decide) (by decide)]; exact ht
      refine s_zast C y113 (by omega) (by omega) dX10_layMet_30 ?_
      refine s_aload_n C dX10_layMet_31 rfl ?_
      refine s_dup C dX10_layMet_32 rfl ?_
      refine s_get (k := 55) (x := (τ3.1 71 55)) C y71 fw_X10_295 rfl rfl dX10_layMet_33 ?_
      refine s_aload_n C dX10_layMet_36 rfl ?_
      refine s_getr (k := 54) (j := 113) C y71 fw_X10_141 rfl dX10_layMet_37 ?_
      refine s_iload_n C dX10_layMet_40 rfl ?_
      refine s_zald (r := r2) C y113 (by omega) (rd_us τ3 113 z.toNatClampNeg r2) dX10_layMet_41 ?_
      refine s_if_eq (tgt := 49) C dX10_layMet_42 (by decide) (fun q5 => ?_) (fun q5 => ?_)
      · refine s_iconst C dX10_layMet_49 (by decide) (fun z6 tz6 => ?_)
        refine s_iaddU C dX10_layMet_50 (fun z7 tz7 => ?_)
        refine s_put (k := 55) C y71 fw_X10_295 fp_9_55 rfl dX10_layMet_51 ?_
        refine s_iinc C dX10_layMet_54 rfl (by decide) rfl (by decide) (by omega) (fun z8 tz8 => ?_)
        show WP E ad 57 [some (.ref (ad 71)), some (.int c), some (.int z8)] [] (sV (sV τ3 113 z.toNatClampNeg r2) 71 55 z7)
        refine s_goto (tgt := 11) C dX10_layMet_57 (by decide) ?_
        exact ih (sV (sV τ3 113 z.toNatClampNeg r2) 71 55 z7) z8 (Fr.sV (Fr.sV (Fr.tr (Fr.tr Fr.rf (Fr.mo kF (by decide) (by decide))) (Fr.mo h4.1 (by decide) (by decide))) (Or.inl (by decide))) (Or.inr (by decide))) (IM.keep kIτ3 (σ := τ3) (τ := (sV (sV τ3 113 z.toNatClampNeg r2) 71 55 z7)) (cs := [113]) (fs := [(71, 55)]) (Fr.sV (Fr.sV Fr.rf (Or.inl (by decide))) (Or.inr (by decide))) (by decide) (by decide) (by decide)) hLτ3 htτ3 (by omega) (by omega)
      · refine s_iconst C dX10_layMet_45 (by decide) (fun z9 tz9 => ?_)
        refine s_goto (tgt := 50) C dX10_layMet_46 (by decide) ?_
        refine s_iaddU C dX10_layMet_50 (fun z10 tz10 => ?_)
        refine s_put (k := 55) C y71 fw_X10_295 fp_9_55 rfl dX10_layMet_51 ?_
        refine s_iinc C dX10_layMet_54 rfl (by decide) rfl (by decide) (by omega) (fun z11 tz11 => ?_)
        show WP E ad 57 [some (.ref (ad 71)), some (.int c), some (.int z11)] [] (sV (sV τ3 113 z.toNatClampNeg r2) 71 55 z10)
        refine s_goto (tgt := 11) C dX10_layMet_57 (by decide) ?_
        exact ih (sV (sV τ3 113 z.toNatClampNeg r2) 71 55 z10) z11 (Fr.sV (Fr.sV (Fr.tr (Fr.tr Fr.rf (Fr.mo kF (by decide) (by decide))) (Fr.mo h4.1 (by decide) (by decide))) (Or.inl (by decide))) (Or.inr (by decide))) (IM.keep kIτ3 (σ := τ3) (τ := (sV (sV τ3 113 z.toNatClampNeg r2) 71 55 z10)) (cs := [113]) (fs := [(71, 55)]) (Fr.sV (Fr.sV Fr.rf (Or.inl (by decide))) (Or.inr (by decide))) (by decide) (by decide) (by decide)) hLτ3 htτ3 (by omega) (by omega)
set_option maxHeartbeats 10000000 in
set_option maxRecDepth 100000 in
theorem c_X10_layMet (l : Launch) (ad : Nat → Nat) (σ : Sg) (c : Int32) (hI : IM σ.1) (hc : 0 ≤ c.toInt ∧ c.toInt ≤ 2) (ht : 0 < (σ.1 84 c.toNatClampNeg).toInt) : Mt l yX10_layMet cX10_layMet 3 none 6 ad σ [.ref (ad 71), .int c] (oV (fun τ => IM τ.1 ∧ ¬ (τ.1 71 39).toInt = 0 ∧ Fr [103, 104, 105, 106, 110, 111, 112, 113] [(71, 39), (71, 40), (71, 47), (71, 53), (71, 55)] σ τ)) := by
  refine Mt_intro (by decide +kernel) (by simp [lg_sl, Value.category]) (fun E C X => ?_)
  show WP E ad 0 [some (.ref (ad 71)), some (.int c), none] [] σ
  refine s_aload_n C dX10_layMet_0 rfl ?_
  refine s_callVV (st := []) C (c_X10_layCuts l ad σ hI) cv_X10_219 y71 rfl rfl rfl ⟨by decide, by decide⟩ (Nat.le_of_ble_eq_true rfl) dX10_layMet_1 ?_
  intro τ2 h3
  have hIτ2 := h3.1
  have hLτ2 := h3.2.1
  refine s_aload_n C dX10_layMet_4 rfl ?_
  refine s_iconst C dX10_layMet_5 (by decide) (fun z4 tz4 => ?_)
  refine s_put (k := 55) C y71 fw_X10_295 fp_9_55 rfl dX10_layMet_6 ?_
  refine s_iconst C dX10_layMet_9 (by decide) (fun z5 tz5 => ?_)
  refine s_istore_n C dX10_layMet_10 (by decide) (Nat.le_of_ble_eq_true rfl) rfl ?_
  show WP E ad 11 [some (.ref (ad 71)), some (.int c), some (.int z5)] [] (sV τ2 71 55 z4)
  exact L_layMet l ad E σ c hc C X 5000 (sV τ2 71 55 z4) z5 (Fr.sV (Fr.tr Fr.rf (Fr.mo h3.2.2.1 (by decide) (by decide))) (Or.inr (by decide))) (IM.keep hIτ2 (σ := τ2) (τ := (sV τ2 71 55 z4)) (cs := []) (fs := [(71, 55)]) (Fr.sV Fr.rf (Or.inr (by decide))) (by decide) (by decide) (by decide)) hLτ2 (by show 0 < Int32.toInt (τ2.1 84 c.toNatClampNeg); rw [h3.2.2.1.a 84 (by decide) (by decide)]; exact ht) (by omega) (by omega)
set_option maxHeartbeats 10000000 in
set_option maxRecDepth 100000 in
theorem c_X10_holds (l : Launch) (ad : Nat → Nat) (σ : Sg) (c i : Int32) (hI : IM σ.1) : Mt l yX10_holds cX10_holds 3 (some .int) 6 ad σ [.ref (ad 71), .int c, .int i] (oI (fun r τ => IM τ.1 ∧ Fr [103, 104, 105, 106, 110, 111, 112, 113] [(71, 39), (71, 40), (71, 47), (71, 53), (71, 55)] σ τ ∧ True)) := by
  refine Mt_intro (by decide +kernel) (by simp [lg_sl, Value.category]) (fun E C X => ?_)
  show WP E ad 0 [some (.ref (ad 71)), some (.int c), some (.int i)] [] σ
  refine s_iload_n C dX10_holds_0 rfl ?_
  refine s_callSI (st := []) C (c_X10_isCondition l ad σ c ) cv_X10_274 rfl rfl ⟨by decide, by decide⟩ (Nat.le_of_ble_eq_true rfl) dX10_holds_1 ?_
  intro r1 τ2 h3
  obtain ⟨eh3, h3⟩ := h3; replace eh3 := eh3.symm; subst eh3
  refine s_if_eq (tgt := 15) C dX10_holds_4 (by decide) (fun q4 => ?_) (fun q4 => ?_)
  · refine s_iconst C dX10_holds_15 (by decide) (fun z5 tz5 => ?_)
    exact s_iret C X dX10_holds_16 ⟨hI, Fr.rf, trivial⟩
  · refine s_aload_n C dX10_holds_7 rfl ?_
    refine s_iload_n C dX10_holds_8 rfl ?_
    refine s_callVI (st := []) C (c_X10_isCut l ad σ i hI) cv_X10_222 y71 rfl rfl rfl ⟨by decide, by decide⟩ (Nat.le_of_ble_eq_true rfl) dX10_holds_9 ?_
    intro r6 τ7 h8
    have hIτ7 := h8.1
    have hRτ7 := h8.2.2
    have hLτ7 := h8.2.2.2.1
    have hBτ7 := hIτ7.cu.1
    refine s_if_ne (tgt := 17) C dX10_holds_12 (by decide) (fun q9 => ?_) (fun q9 => ?_)
    · refine s_aload_n C dX10_holds_17 rfl ?_
      refine s_getr (k := 15) (j := 84) C y71 fw_X10_52 rfl dX10_holds_18 ?_
      refine s_iload_n C dX10_holds_21 rfl ?_
      refine s_iald (r := (τ7.1 84 c.toNatClampNeg)) C y84 (by omega) rfl dX10_holds_22 ?_
      have htm := hIτ7.tm c.toNatClampNeg
      refine s_if_ne (tgt := 29) C dX10_holds_23 (by decide) (fun q10 => ?_) (fun q10 => ?_)
      · refine s_aload_n C dX10_holds_29 rfl ?_
        refine s_iload_n C dX10_holds_30 rfl ?_
        refine s_iload_n C dX10_holds_31 rfl ?_
        refine s_callVI (st := []) C (c_X10_meets l ad τ7 c i hIτ7 (by omega) (by omega) (by omega)) cv_X10_298 y71 rfl rfl rfl ⟨by decide, by decide⟩ (Nat.le_of_ble_eq_true rfl) dX10_holds_32 ?_
        intro r11 τ12 h13
        have bh13 := h13.2
        have hIτ12 : IM τ12.1 := IM.keep hIτ7 h13.1 (by decide) (by decide) (by decide)
        refine s_if_eq (tgt := 42) C dX10_holds_35 (by decide) (fun q14 => ?_) (fun q14 => ?_)
        · refine s_iconst C dX10_holds_42 (by decide) (fun z15 tz15 => ?_)
          exact s_iret C X dX10_holds_43 ⟨hIτ12, (Fr.tr (Fr.tr Fr.rf (Fr.mo h8.2.1 (by decide) (by decide))) (Fr.mo h13.1 (by decide) (by decide))), trivial⟩
        · refine s_iconst C dX10_holds_38 (by decide) (fun z16 tz16 => ?_)
          refine s_goto (tgt := 43) C dX10_holds_39 (by decide) ?_
          exact s_iret C X dX10_holds_43 ⟨hIτ12, (Fr.tr (Fr.tr Fr.rf (Fr.mo h8.2.1 (by decide) (by decide))) (Fr.mo h13.1 (by decide) (by decide))), trivial⟩
      · refine s_bipush C dX10_holds_26 (by decide) (fun z17 tz17 => ?_)
        exact s_iret C X dX10_holds_28 ⟨hIτ7, (Fr.tr Fr.rf (Fr.mo h8.2.1 (by decide) (by decide))), trivial⟩
    · refine s_iconst C dX10_holds_15 (by decide) (fun z18 tz18 => ?_)
      exact s_iret C X dX10_holds_16 ⟨hIτ7, (Fr.tr Fr.rf (Fr.mo h8.2.1 (by decide) (by decide))), trivial⟩
set_option maxHeartbeats 10000000 in
set_option maxRecDepth 100000 in
theorem L_possible (l : Launch) (ad : Nat → Nat) (E : Ev) (σ τ : Sg) (kF : Fr [103, 104, 105, 106, 110, 111, 112, 113] [(71, 39), (71, 40), (71, 47), (71, 53), (71, 55)] σ τ) (kI : IM τ.1) (c k : Int32) (C : Cx E l (rmk 7) 5 cX10_possible RX10) (X : Rx E ad (some .int) (oI (fun r τ => IM τ.1 ∧ Fr [103, 104, 105, 106, 110, 111, 112, 113] [(71, 39), (71, 40), (71, 47), (71, 53), (71, 55)] σ τ ∧ True)))  : ∀ (n : Nat) (a : Int32) (z : Int32), (0 ≤ z.toInt) → (0 ≤ a.toInt ∧ a.toInt ≤ z.toInt) → (1296 - z.toInt).toNat < n → WP E ad 36 [some (.ref (ad 71)), some (.int c), some (.int k), some (.int a), some (.int z)] [] τ := by
  intro n
  induction n with
  | zero => intro a z h0 ha hm9; exact absurd hm9 (Nat.not_lt_zero _)
  | succ n ih =>
    intro a z h0 ha hm9
    have hcb := kI.cu.1
    refine s_iload C dX10_possible_36 rfl ?_
    refine s_aload_n C dX10_possible_38 rfl ?_
    refine s_get (k := 40) (x := (τ.1 71 40)) C y71 fw_X10_208 rfl rfl dX10_possible_39 ?_
    refine s_icmp_ge (tgt := 72) C dX10_possible_42 (by decide) (fun q1 => ?_) (fun q1 => ?_)
    · refine s_iload_n C dX10_possible_72 rfl ?_
      refine s_iconst C dX10_possible_73 (by decide) (fun z2 tz2 => ?_)
      refine s_icmp_ne (tgt := 81) C dX10_possible_74 (by decide) (fun q3 => ?_) (fun q3 => ?_)
      · refine s_bipush C dX10_possible_81 (by decide) (fun z4 tz4 => ?_)
        exact s_iret C X dX10_possible_83 ⟨kI, kF, trivial⟩
      · refine s_iload_n C dX10_possible_77 rfl ?_
        refine s_goto (tgt := 83) C dX10_possible_78 (by decide) ?_
        exact s_iret C X dX10_possible_83 ⟨kI, kF, trivial⟩
    · refine s_aload_n C dX10_possible_45 rfl ?_
      refine s_getr (k := 54) (j := 113) C y71 fw_X10_141 rfl dX10_possible_46 ?_
      refine s_iload C dX10_possible_49 rfl ?_
      refine s_zald (r := (τ.1 113 z.toNatClampNeg)) C y113 (by omega) rfl dX10_possible_51 ?_
      refine s_if_eq (tgt := 66) C dX10_possible_52 (by decide) (fun q5 => ?_) (fun q5 => ?_)
      · refine s_iinc C dX10_possible_66 rfl (by decide) rfl (by decide) (by omega) (fun z6 tz6 => ?_)
        show WP E ad 69 [some (.ref (ad 71)), some (.int c), some (.int k), some (.int a), some (.int z6)] [] τ
        refine s_goto (tgt := 36) C dX10_possible_69 (by decide) ?_
        exact ih a z6 (by omega) (by omega) (by omega)
      · refine s_iload_n C dX10_possible_55 rfl ?_
        refine s_iload_n C dX10_possible_56 rfl ?_
        refine s_icmp_ne (tgt := 63) C dX10_possible_57 (by decide) (fun q7 => ?_) (fun q7 => ?_)
        · refine s_iinc C dX10_possible_63 rfl (by decide) rfl (by decide) (by omega) (fun z8 tz8 => ?_)
          show WP E ad 66 [some (.ref (ad 71)), some (.int c), some (.int k), some (.int z8), some (.int z)] [] τ
          refine s_iinc C dX10_possible_66 rfl (by decide) rfl (by decide) (by omega) (fun z9 tz9 => ?_)
          show WP E ad 69 [some (.ref (ad 71)), some (.int c), some (.int k), some (.int z8), some (.int z9)] [] τ
          refine s_goto (tgt := 36) C dX10_possible_69 (by decide) ?_
          exact ih z8 z9 (by omega) (by omega) (by omega)
        · refine s_iload C dX10_possible_60 rfl ?_
          exact s_iret C X dX10_possible_62 ⟨kI, kF, trivial⟩
set_option maxHeartbeats 10000000 in
set_option maxRecDepth 100000 in
theorem c_X10_possible (l : Launch) (ad : Nat → Nat) (σ : Sg) (c k : Int32) (hI : IM σ.1) : Mt l yX10_possible cX10_possible 5 (some .int) 7 ad σ [.ref (ad 71), .int c, .int k] (oI (fun r τ => IM τ.1 ∧ Fr [103, 104, 105, 106, 110, 111, 112, 113] [(71, 39), (71, 40), (71, 47), (71, 53), (71, 55)] σ τ ∧ True)) := by
  refine Mt_intro (by decide +kernel) (by simp [lg_sl, Value.category]) (fun E C X => ?_)
  show WP E ad 0 [some (.ref (ad 71)), some (.int c), some (.int k), none, none] [] σ
  refine s_iload_n C dX10_possible_0 rfl ?_
  refine s_callSI (st := []) C (c_X10_isCondition l ad σ c ) cv_X10_274 rfl rfl ⟨by decide, by decide⟩ (Nat.le_of_ble_eq_true rfl) dX10_possible_1 ?_
  intro r1 τ2 h3
  obtain ⟨eh3, h3⟩ := h3; replace eh3 := eh3.symm; subst eh3
  refine s_if_eq (tgt := 12) C dX10_possible_4 (by decide) (fun q4 => ?_) (fun q4 => ?_)
  · refine s_iconst C dX10_possible_12 (by decide) (fun z5 tz5 => ?_)
    exact s_iret C X dX10_possible_13 ⟨hI, Fr.rf, trivial⟩
  · refine s_iload_n C dX10_possible_7 rfl ?_
    refine s_iconst C dX10_possible_8 (by decide) (fun z6 tz6 => ?_)
    refine s_icmp_ge (tgt := 14) C dX10_possible_9 (by decide) (fun q7 => ?_) (fun q7 => ?_)
    · refine s_aload_n C dX10_possible_14 rfl ?_
      refine s_getr (k := 15) (j := 84) C y71 fw_X10_52 rfl dX10_possible_15 ?_
      refine s_iload_n C dX10_possible_18 rfl ?_
      refine s_iald (r := (σ.1 84 c.toNatClampNeg)) C y84 (by omega) rfl dX10_possible_19 ?_
      have b8 := hI.tm c.toNatClampNeg
      refine s_if_ne (tgt := 26) C dX10_possible_20 (by decide) (fun q9 => ?_) (fun q9 => ?_)
      · refine s_aload_n C dX10_possible_26 rfl ?_
        refine s_iload_n C dX10_possible_27 rfl ?_
        refine s_callVV (st := []) C (c_X10_layMet l ad σ c hI (by omega) (by omega)) cv_X10_301 y71 rfl rfl rfl ⟨by decide, by decide⟩ (Nat.le_of_ble_eq_true rfl) dX10_possible_28 ?_
        intro τ11 h12
        have hIτ11 := h12.1
        have hLτ11 := h12.2.1
        refine s_iconst C dX10_possible_31 (by decide) (fun z13 tz13 => ?_)
        refine s_istore_n C dX10_possible_32 (by decide) (Nat.le_of_ble_eq_true rfl) rfl ?_
        show WP E ad 33 [some (.ref (ad 71)), some (.int c), some (.int k), some (.int z13), none] [] τ11
        refine s_iconst C dX10_possible_33 (by decide) (fun z14 tz14 => ?_)
        refine s_istore C dX10_possible_34 (by decide) (Nat.le_of_ble_eq_true rfl) rfl ?_
        show WP E ad 36 [some (.ref (ad 71)), some (.int c), some (.int k), some (.int z13), some (.int z14)] [] τ11
        exact L_possible l ad E σ τ11 (Fr.tr Fr.rf (Fr.mo h12.2.2 (by decide) (by decide))) hIτ11 c k C X 5000 z13 z14 (by omega) (by omega) (by omega)
      · refine s_bipush C dX10_possible_23 (by decide) (fun z15 tz15 => ?_)
        exact s_iret C X dX10_possible_25 ⟨hI, Fr.rf, trivial⟩
    · refine s_iconst C dX10_possible_12 (by decide) (fun z16 tz16 => ?_)
      exact s_iret C X dX10_possible_13 ⟨hI, Fr.rf, trivial⟩
set_option maxHeartbeats 10000000 in
set_option maxRecDepth 100000 in
theorem L_film (l : Launch) (ad : Nat → Nat) (E : Ev) (σ : Sg) (q c : Int32) (hq : 0 ≤ q.toInt ∧ q.toInt ≤ 2) (C : Cx E l (rmk 7) 5 cX10_film RX10) (X : Rx E ad (some .int) (oI (fun r τ => IM τ.1 ∧ Fr [103, 104, 105, 106, 110, 111, 112, 113, 87, 88] [(71, 39), (71, 40), (71, 47), (71, 53), (71, 55)] σ τ ∧ True)))  : ∀ (n : Nat) (τ : Sg) (a : Int32) (z : Int32), (Fr [103, 104, 105, 106, 110, 111, 112, 113, 87, 88] [(71, 39), (71, 40), (71, 47), (71, 53), (71, 55)] σ τ) → (IM τ.1) → (0 ≤ z.toInt) → (0 ≤ a.toInt ∧ a.toInt ≤ 20) → (1296 - z.toInt).toNat < n → WP E ad 38 [some (.ref (ad 71)), some (.int q), some (.int c), some (.int a), some (.int z)] [] τ := by
  intro n
  induction n with
  | zero => intro τ a z kF kI h0 ha hm9; exact absurd hm9 (Nat.not_lt_zero _)
  | succ n ih =>
    intro τ a z kF kI h0 ha hm9
    have hcb := kI.cu.1
    refine s_iload C dX10_film_38 rfl ?_
    refine s_aload_n C dX10_film_40 rfl ?_
    refine s_get (k := 40) (x := (τ.1 71 40)) C y71 fw_X10_208 rfl rfl dX10_film_41 ?_
    refine s_icmp_ge (tgt := 86) C dX10_film_44 (by decide) (fun q1 => ?_) (fun q1 => ?_)
    · refine s_aload_n C dX10_film_86 rfl ?_
      refine s_getr (k := 19) (j := 87) C y71 fw_X10_61 rfl dX10_film_87 ?_
      refine s_iload_n C dX10_film_90 rfl ?_
      refine s_iload_n C dX10_film_91 rfl ?_
      refine s_iast C y87 (by omega) dX10_film_92 ?_
      refine s_iload_n C dX10_film_93 rfl ?_
      exact s_iret C X dX10_film_94 ⟨(⟨kI.1, kI.2.1, kI.2.2.1, up_iv kI.2.2.2.1 _ (by omega), kI.2.2.2.2.1, kI.2.2.2.2.2.1, kI.2.2.2.2.2.2⟩ : IM (sV τ 87 q.toNatClampNeg a).1), (Fr.sV (Fr.tr Fr.rf (Fr.mo kF (by decide) (by decide))) (Or.inl (by decide))), trivial⟩
    · refine s_iload_n C dX10_film_47 rfl ?_
      refine s_bipush C dX10_film_48 (by decide) (fun z2 tz2 => ?_)
      refine s_icmp_ge (tgt := 86) C dX10_film_50 (by decide) (fun q3 => ?_) (fun q3 => ?_)
      · refine s_aload_n C dX10_film_86 rfl ?_
        refine s_getr (k := 19) (j := 87) C y71 fw_X10_61 rfl dX10_film_87 ?_
        refine s_iload_n C dX10_film_90 rfl ?_
        refine s_iload_n C dX10_film_91 rfl ?_
        refine s_iast C y87 (by omega) dX10_film_92 ?_
        refine s_iload_n C dX10_film_93 rfl ?_
        exact s_iret C X dX10_film_94 ⟨(⟨kI.1, kI.2.1, kI.2.2.1, up_iv kI.2.2.2.1 _ (by omega), kI.2.2.2.2.1, kI.2.2.2.2.2.1, kI.2.2.2.2.2.2⟩ : IM (sV τ 87 q.toNatClampNeg a).1), (Fr.sV (Fr.tr Fr.rf (Fr.mo kF (by decide) (by decide))) (Or.inl (by decide))), trivial⟩
      · refine s_aload_n C dX10_film_53 rfl ?_
        refine s_getr (k := 54) (j := 113) C y71 fw_X10_141 rfl dX10_film_54 ?_
        refine s_iload C dX10_film_57 rfl ?_
        refine s_zald (r := (τ.1 113 z.toNatClampNeg)) C y113 (by omega) rfl dX10_film_59 ?_
        refine s_if_eq (tgt := 80) C dX10_film_60 (by decide) (fun q4 => ?_) (fun q4 => ?_)
        · refine s_iinc C dX10_film_80 rfl (by decide) rfl (by decide) (by omega) (fun z5 tz5 => ?_)
          show WP E ad 83 [some (.ref (ad 71)), some (.int q), some (.int c), some (.int a), some (.int z5)] [] τ
          refine s_goto (tgt := 38) C dX10_film_83 (by decide) ?_
          exact ih τ a z5 (Fr.tr Fr.rf (Fr.mo kF (by decide) (by decide))) kI (by omega) (by omega) (by omega)
        · refine s_aload_n C dX10_film_63 rfl ?_
          refine s_getr (k := 20) (j := 88) C y71 fw_X10_64 rfl dX10_film_64 ?_
          refine s_bipush C dX10_film_67 (by decide) (fun z6 tz6 => ?_)
          refine s_iload_n C dX10_film_69 rfl ?_
          refine s_imulL C tz6 dX10_film_70 (by omega) (fun z7 tz7 => ?_)
          refine s_iload_n C dX10_film_71 rfl ?_
          refine s_iadd C dX10_film_72 (by omega) (fun z8 tz8 => ?_)
          refine s_iload C dX10_film_73 rfl ?_
          refine s_i2l C dX10_film_75 (fun L9 tL9 => ?_)
          refine s_last C y88 (by omega) dX10_film_76 ?_
          refine s_iinc C dX10_film_77 rfl (by decide) rfl (by decide) (by omega) (fun z10 tz10 => ?_)
          show WP E ad 80 [some (.ref (ad 71)), some (.int q), some (.int c), some (.int z10), some (.int z)] [] (sL τ 88 z8.toNatClampNeg L9)
          refine s_iinc C dX10_film_80 rfl (by decide) rfl (by decide) (by omega) (fun z11 tz11 => ?_)
          show WP E ad 83 [some (.ref (ad 71)), some (.int q), some (.int c), some (.int z10), some (.int z11)] [] (sL τ 88 z8.toNatClampNeg L9)
          refine s_goto (tgt := 38) C dX10_film_83 (by decide) ?_
          exact ih (sL τ 88 z8.toNatClampNeg L9) z10 z11 (Fr.sL (Fr.tr Fr.rf (Fr.mo kF (by decide) (by decide))) (by decide)) kI (by omega) (by omega) (by omega)
set_option maxHeartbeats 10000000 in
set_option maxRecDepth 100000 in
theorem c_X10_film (l : Launch) (ad : Nat → Nat) (σ : Sg) (q c : Int32) (hI : IM σ.1) : Mt l yX10_film cX10_film 5 (some .int) 7 ad σ [.ref (ad 71), .int q, .int c] (oI (fun r τ => IM τ.1 ∧ Fr [103, 104, 105, 106, 110, 111, 112, 113, 87, 88] [(71, 39), (71, 40), (71, 47), (71, 53), (71, 55)] σ τ ∧ True)) := by
  refine Mt_intro (by decide +kernel) (by simp [lg_sl, Value.category]) (fun E C X => ?_)
  show WP E ad 0 [some (.ref (ad 71)), some (.int q), some (.int c), none, none] [] σ
  refine s_iload_n C dX10_film_0 rfl ?_
  refine s_callSI (st := []) C (c_X10_isList l ad σ q ) cv_X10_349 rfl rfl ⟨by decide, by decide⟩ (Nat.le_of_ble_eq_true rfl) dX10_film_1 ?_
  intro r1 τ2 h3
  obtain ⟨eh3, h3⟩ := h3; replace eh3 := eh3.symm; subst eh3
  refine s_if_eq (tgt := 14) C dX10_film_4 (by decide) (fun q4 => ?_) (fun q4 => ?_)
  · refine s_iconst C dX10_film_14 (by decide) (fun z5 tz5 => ?_)
    exact s_iret C X dX10_film_15 ⟨hI, Fr.rf, trivial⟩
  · refine s_iload_n C dX10_film_7 rfl ?_
    refine s_callSI (st := []) C (c_X10_isCondition l ad σ c ) cv_X10_274 rfl rfl ⟨by decide, by decide⟩ (Nat.le_of_ble_eq_true rfl) dX10_film_8 ?_
    intro r6 τ7 h8
    obtain ⟨eh8, h8⟩ := h8; replace eh8 := eh8.symm; subst eh8
    refine s_if_ne (tgt := 16) C dX10_film_11 (by decide) (fun q9 => ?_) (fun q9 => ?_)
    · refine s_aload_n C dX10_film_16 rfl ?_
      refine s_getr (k := 15) (j := 84) C y71 fw_X10_52 rfl dX10_film_17 ?_
      refine s_iload_n C dX10_film_20 rfl ?_
      refine s_iald (r := (σ.1 84 c.toNatClampNeg)) C y84 (by omega) rfl dX10_film_21 ?_
      have b10 := hI.tm c.toNatClampNeg
      refine s_if_ne (tgt := 28) C dX10_film_22 (by decide) (fun q11 => ?_) (fun q11 => ?_)
      · refine s_aload_n C dX10_film_28 rfl ?_
        refine s_iload_n C dX10_film_29 rfl ?_
        refine s_callVV (st := []) C (c_X10_layMet l ad σ c hI (by omega) (by omega)) cv_X10_301 y71 rfl rfl rfl ⟨by decide, by decide⟩ (Nat.le_of_ble_eq_true rfl) dX10_film_30 ?_
        intro τ13 h14
        have hIτ13 := h14.1
        have hLτ13 := h14.2.1
        refine s_iconst C dX10_film_33 (by decide) (fun z15 tz15 => ?_)
        refine s_istore_n C dX10_film_34 (by decide) (Nat.le_of_ble_eq_true rfl) rfl ?_
        show WP E ad 35 [some (.ref (ad 71)), some (.int q), some (.int c), some (.int z15), none] [] τ13
        refine s_iconst C dX10_film_35 (by decide) (fun z16 tz16 => ?_)
        refine s_istore C dX10_film_36 (by decide) (Nat.le_of_ble_eq_true rfl) rfl ?_
        show WP E ad 38 [some (.ref (ad 71)), some (.int q), some (.int c), some (.int z15), some (.int z16)] [] τ13
        exact L_film l ad E σ q c (by omega) C X 5000 τ13 z15 z16 (Fr.tr Fr.rf (Fr.mo h14.2.2 (by decide) (by decide))) hIτ13 (by omega) (by omega) (by omega)
      · refine s_bipush C dX10_film_25 (by decide) (fun z17 tz17 => ?_)
        exact s_iret C X dX10_film_27 ⟨hI, Fr.rf, trivial⟩
    · refine s_iconst C dX10_film_14 (by decide) (fun z18 tz18 => ?_)
      exact s_iret C X dX10_film_15 ⟨hI, Fr.rf, trivial⟩
