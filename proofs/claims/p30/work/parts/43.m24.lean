set_option maxRecDepth 100000 in
theorem L_judge64 (l : Launch) (ad : Nat → Nat) (E : Ev) (σ τ : Sg) (kF : Fr [103, 104, 105, 106, 110, 111, 112, 113] [(71, 39), (71, 40), (71, 47), (71, 53), (71, 55)] σ τ) (kI : IM τ.1) (q c : Int32) (hq : 0 ≤ q.toInt ∧ q.toInt ≤ 2) (k : Int32) (hk : 0 ≤ k.toInt ∧ k.toInt ≤ 19) (C : Cx E l (rmk 7) 5 cX10_judge RX10) (X : Rx E ad (some .int) (oI (fun r τ => IM τ.1 ∧ Fr [103, 104, 105, 106, 110, 111, 112, 113] [(71, 39), (71, 40), (71, 47), (71, 53), (71, 55)] σ τ ∧ True))) (K : ∀ a k2 : Int32, 0 ≤ a.toInt → a.toInt ≤ 1295 → k2.toInt = k.toInt + 1 → WP E ad 50 [some (.ref (ad 71)), some (.int q), some (.int c), some (.int a), some (.int k2)] [] τ) : ∀ (n : Nat) (z : Int32), (0 ≤ z.toInt ∧ z.toInt ≤ 1296) → (1297 - z.toInt).toNat < n → WP E ad 64 [some (.ref (ad 71)), some (.int q), some (.int c), some (.int z), some (.int k)] [] τ := by
  intro n
  induction n with
  | zero => intro z h0 hm9; exact absurd hm9 (Nat.not_lt_zero _)
  | succ n ih =>
    intro z h0 hm9
    have hcb := kI.cu.1
    refine s_iload_n C dX10_judge_64 rfl ?_
    refine s_aload_n C dX10_judge_65 rfl ?_
    refine s_get (k := 40) (x := (τ.1 71 40)) C y71 fw_X10_208 rfl rfl dX10_judge_66 ?_
    refine s_icmp_ge (tgt := 87) C dX10_judge_69 (by decide) (fun q1 => ?_) (fun q1 => ?_)
    · refine s_iload_n C dX10_judge_87 rfl ?_
      refine s_aload_n C dX10_judge_88 rfl ?_
      refine s_get (k := 40) (x := (τ.1 71 40)) C y71 fw_X10_208 rfl rfl dX10_judge_89 ?_
      refine s_icmp_ge (tgt := 113) C dX10_judge_92 (by decide) (fun q2 => ?_) (fun q2 => ?_)
      · refine s_iload C dX10_judge_113 rfl ?_
        exact s_iret C X dX10_judge_115 ⟨kI, kF, trivial⟩
      · refine s_aload_n C dX10_judge_95 rfl ?_
        refine s_getr (k := 20) (j := 88) C y71 fw_X10_64 rfl dX10_judge_96 ?_
        refine s_bipush C dX10_judge_99 (by decide) (fun z3 tz3 => ?_)
        refine s_iload_n C dX10_judge_101 rfl ?_
        refine s_imulL C tz3 dX10_judge_102 (by omega) (fun z4 tz4 => ?_)
        refine s_iload C dX10_judge_103 rfl ?_
        refine s_iadd C dX10_judge_105 (by omega) (fun z5 tz5 => ?_)
        refine s_lald (r := (τ.2 88 z5.toNatClampNeg)) C y88 (by omega) rfl dX10_judge_106 ?_
        refine s_iload_n C dX10_judge_107 rfl ?_
        refine s_i2l C dX10_judge_108 (fun L6 tL6 => ?_)
        refine s_lcmp C dX10_judge_109 (fun z7 tz7 => ?_)
        refine s_if_eq (tgt := 116) C dX10_judge_110 (by decide) (fun q8 => ?_) (fun q8 => ?_)
        · refine s_iinc C dX10_judge_116 rfl (by decide) rfl (by decide) (by omega) (fun z9 tz9 => ?_)
          show WP E ad 119 [some (.ref (ad 71)), some (.int q), some (.int c), some (.int z), some (.int z9)] [] τ
          refine s_goto (tgt := 50) C dX10_judge_119 (by decide) ?_
          exact K z z9 (by omega) (by omega) (by omega)
        · refine s_iload C dX10_judge_113 rfl ?_
          exact s_iret C X dX10_judge_115 ⟨kI, kF, trivial⟩
    · refine s_aload_n C dX10_judge_72 rfl ?_
      refine s_getr (k := 54) (j := 113) C y71 fw_X10_141 rfl dX10_judge_73 ?_
      refine s_iload_n C dX10_judge_76 rfl ?_
      refine s_zald (r := (τ.1 113 z.toNatClampNeg)) C y113 (by omega) rfl dX10_judge_77 ?_
      refine s_if_ne (tgt := 87) C dX10_judge_78 (by decide) (fun q10 => ?_) (fun q10 => ?_)
      · refine s_iload_n C dX10_judge_87 rfl ?_
        refine s_aload_n C dX10_judge_88 rfl ?_
        refine s_get (k := 40) (x := (τ.1 71 40)) C y71 fw_X10_208 rfl rfl dX10_judge_89 ?_
        refine s_icmp_ge (tgt := 113) C dX10_judge_92 (by decide) (fun q11 => ?_) (fun q11 => ?_)
        · refine s_iload C dX10_judge_113 rfl ?_
          exact s_iret C X dX10_judge_115 ⟨kI, kF, trivial⟩
        · refine s_aload_n C dX10_judge_95 rfl ?_
          refine s_getr (k := 20) (j := 88) C y71 fw_X10_64 rfl dX10_judge_96 ?_
          refine s_bipush C dX10_judge_99 (by decide) (fun z12 tz12 => ?_)
          refine s_iload_n C dX10_judge_101 rfl ?_
          refine s_imulL C tz12 dX10_judge_102 (by omega) (fun z13 tz13 => ?_)
          refine s_iload C dX10_judge_103 rfl ?_
          refine s_iadd C dX10_judge_105 (by omega) (fun z14 tz14 => ?_)
          refine s_lald (r := (τ.2 88 z14.toNatClampNeg)) C y88 (by omega) rfl dX10_judge_106 ?_
          refine s_iload_n C dX10_judge_107 rfl ?_
          refine s_i2l C dX10_judge_108 (fun L15 tL15 => ?_)
          refine s_lcmp C dX10_judge_109 (fun z16 tz16 => ?_)
          refine s_if_eq (tgt := 116) C dX10_judge_110 (by decide) (fun q17 => ?_) (fun q17 => ?_)
          · refine s_iinc C dX10_judge_116 rfl (by decide) rfl (by decide) (by omega) (fun z18 tz18 => ?_)
            show WP E ad 119 [some (.ref (ad 71)), some (.int q), some (.int c), some (.int z), some (.int z18)] [] τ
            refine s_goto (tgt := 50) C dX10_judge_119 (by decide) ?_
            exact K z z18 (by omega) (by omega) (by omega)
          · refine s_iload C dX10_judge_113 rfl ?_
            exact s_iret C X dX10_judge_115 ⟨kI, kF, trivial⟩
      · refine s_iinc C dX10_judge_81 rfl (by decide) rfl (by decide) (by omega) (fun z19 tz19 => ?_)
        show WP E ad 84 [some (.ref (ad 71)), some (.int q), some (.int c), some (.int z19), some (.int k)] [] τ
        refine s_goto (tgt := 64) C dX10_judge_84 (by decide) ?_
        exact ih z19 (by omega) (by omega)
set_option maxRecDepth 100000 in
theorem L_judge50 (l : Launch) (ad : Nat → Nat) (E : Ev) (σ τ : Sg) (kF : Fr [103, 104, 105, 106, 110, 111, 112, 113] [(71, 39), (71, 40), (71, 47), (71, 53), (71, 55)] σ τ) (kI : IM τ.1) (q c : Int32) (hq : 0 ≤ q.toInt ∧ q.toInt ≤ 2) (C : Cx E l (rmk 7) 5 cX10_judge RX10) (X : Rx E ad (some .int) (oI (fun r τ => IM τ.1 ∧ Fr [103, 104, 105, 106, 110, 111, 112, 113] [(71, 39), (71, 40), (71, 47), (71, 53), (71, 55)] σ τ ∧ True)))  : ∀ (n : Nat) (a : Int32) (z : Int32), (0 ≤ z.toInt) → (-1 ≤ a.toInt ∧ a.toInt ≤ 1295) → (20 - z.toInt).toNat < n → WP E ad 50 [some (.ref (ad 71)), some (.int q), some (.int c), some (.int a), some (.int z)] [] τ := by
  intro n
  induction n with
  | zero => intro a z h0 ha hm9; exact absurd hm9 (Nat.not_lt_zero _)
  | succ n ih =>
    intro a z h0 ha hm9
    refine s_iload C dX10_judge_50 rfl ?_
    refine s_aload_n C dX10_judge_52 rfl ?_
    refine s_getr (k := 19) (j := 87) C y71 fw_X10_61 rfl dX10_judge_53 ?_
    refine s_iload_n C dX10_judge_56 rfl ?_
    refine s_iald (r := (τ.1 87 q.toNatClampNeg)) C y87 (by omega) rfl dX10_judge_57 ?_
    have b1 := kI.ls q.toNatClampNeg
    refine s_icmp_ge (tgt := 122) C dX10_judge_58 (by decide) (fun q2 => ?_) (fun q2 => ?_)
    · refine s_bipush C dX10_judge_122 (by decide) (fun z3 tz3 => ?_)
      refine s_aload_n C dX10_judge_124 rfl ?_
      refine s_getr (k := 19) (j := 87) C y71 fw_X10_61 rfl dX10_judge_125 ?_
      refine s_iload_n C dX10_judge_128 rfl ?_
      refine s_iald (r := (τ.1 87 q.toNatClampNeg)) C y87 (by omega) rfl dX10_judge_129 ?_
      have b4 := kI.ls q.toNatClampNeg
      refine s_iadd C dX10_judge_130 (by omega) (fun z5 tz5 => ?_)
      exact s_iret C X dX10_judge_131 ⟨kI, kF, trivial⟩
    · refine s_iinc C dX10_judge_61 rfl (by decide) rfl (by decide) (by omega) (fun z6 tz6 => ?_)
      show WP E ad 64 [some (.ref (ad 71)), some (.int q), some (.int c), some (.int z6), some (.int z)] [] τ
      exact L_judge64 l ad E σ τ kF kI q c hq z (by omega) C X (fun a k2 h1 h2 h3 => ih a k2 (by omega) (by omega) (by omega)) 5000 z6 (by omega) (by omega)
set_option maxRecDepth 100000 in
theorem c_X10_judge (l : Launch) (ad : Nat → Nat) (σ : Sg) (q c : Int32) (hI : IM σ.1) : Mt l yX10_judge cX10_judge 5 (some .int) 7 ad σ [.ref (ad 71), .int q, .int c] (oI (fun r τ => IM τ.1 ∧ Fr [103, 104, 105, 106, 110, 111, 112, 113] [(71, 39), (71, 40), (71, 47), (71, 53), (71, 55)] σ τ ∧ True)) := by
  refine Mt_intro (by decide +kernel) (by simp [lg_sl, Value.category]) (fun E C X => ?_)
  show WP E ad 0 [some (.ref (ad 71)), some (.int q), some (.int c), none, none] [] σ
  refine s_iload_n C dX10_judge_0 rfl ?_
  refine s_callSI (st := []) C (c_X10_isList l ad σ q ) cv_X10_349 rfl rfl ⟨by decide, by decide⟩ (Nat.le_of_ble_eq_true rfl) dX10_judge_1 ?_
  intro r1 τ2 h3
  obtain ⟨eh3, h3⟩ := h3; replace eh3 := eh3.symm; subst eh3
  refine s_if_eq (tgt := 14) C dX10_judge_4 (by decide) (fun q4 => ?_) (fun q4 => ?_)
  · refine s_iconst C dX10_judge_14 (by decide) (fun z5 tz5 => ?_)
    exact s_iret C X dX10_judge_15 ⟨hI, Fr.rf, trivial⟩
  · refine s_iload_n C dX10_judge_7 rfl ?_
    refine s_callSI (st := []) C (c_X10_isCondition l ad σ c ) cv_X10_274 rfl rfl ⟨by decide, by decide⟩ (Nat.le_of_ble_eq_true rfl) dX10_judge_8 ?_
    intro r6 τ7 h8
    obtain ⟨eh8, h8⟩ := h8; replace eh8 := eh8.symm; subst eh8
    refine s_if_ne (tgt := 16) C dX10_judge_11 (by decide) (fun q9 => ?_) (fun q9 => ?_)
    · refine s_aload_n C dX10_judge_16 rfl ?_
      refine s_getr (k := 19) (j := 87) C y71 fw_X10_61 rfl dX10_judge_17 ?_
      refine s_iload_n C dX10_judge_20 rfl ?_
      refine s_iald (r := (σ.1 87 q.toNatClampNeg)) C y87 (by omega) rfl dX10_judge_21 ?_
      have b10 := hI.ls q.toNatClampNeg
      refine s_if_ge (tgt := 28) C dX10_judge_22 (by decide) (fun q11 => ?_) (fun q11 => ?_)
      · refine s_aload_n C dX10_judge_28 rfl ?_
        refine s_getr (k := 15) (j := 84) C y71 fw_X10_52 rfl dX10_judge_29 ?_
        refine s_iload_n C dX10_judge_32 rfl ?_
        refine s_iald (r := (σ.1 84 c.toNatClampNeg)) C y84 (by omega) rfl dX10_judge_33 ?_
        have b12 := hI.tm c.toNatClampNeg
        refine s_if_ne (tgt := 40) C dX10_judge_34 (by decide) (fun q13 => ?_) (fun q13 => ?_)
        · refine s_aload_n C dX10_judge_40 rfl ?_
          refine s_iload_n C dX10_judge_41 rfl ?_
          refine s_callVV (st := []) C (c_X10_layMet l ad σ c hI (by omega) (by omega)) cv_X10_301 y71 rfl rfl rfl ⟨by decide, by decide⟩ (Nat.le_of_ble_eq_true rfl) dX10_judge_42 ?_
          intro τ15 h16
          have hIτ15 := h16.1
          have hLτ15 := h16.2.1
          refine s_iconst C dX10_judge_45 (by decide) (fun z17 tz17 => ?_)
          refine s_istore_n C dX10_judge_46 (by decide) (Nat.le_of_ble_eq_true rfl) rfl ?_
          show WP E ad 47 [some (.ref (ad 71)), some (.int q), some (.int c), some (.int z17), none] [] τ15
          refine s_iconst C dX10_judge_47 (by decide) (fun z18 tz18 => ?_)
          refine s_istore C dX10_judge_48 (by decide) (Nat.le_of_ble_eq_true rfl) rfl ?_
          show WP E ad 50 [some (.ref (ad 71)), some (.int q), some (.int c), some (.int z17), some (.int z18)] [] τ15
          exact L_judge50 l ad E σ τ15 (Fr.tr Fr.rf (Fr.mo h16.2.2 (by decide) (by decide))) hIτ15 q c (by omega) C X 100 z17 z18 (by omega) (by omega) (by omega)
        · refine s_bipush C dX10_judge_37 (by decide) (fun z19 tz19 => ?_)
          exact s_iret C X dX10_judge_39 ⟨hI, Fr.rf, trivial⟩
      · refine s_bipush C dX10_judge_25 (by decide) (fun z20 tz20 => ?_)
        exact s_iret C X dX10_judge_27 ⟨hI, Fr.rf, trivial⟩
    · refine s_iconst C dX10_judge_14 (by decide) (fun z21 tz21 => ?_)
      exact s_iret C X dX10_judge_15 ⟨hI, Fr.rf, trivial⟩
