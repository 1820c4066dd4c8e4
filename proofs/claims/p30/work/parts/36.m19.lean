set_option maxRecDepth 100000 in
theorem L_unitIn (l : Launch) (ad : Nat → Nat) (E : Ev) (σ : Sg) (i k x : Int32) (C : Cx E l (rmk 2) 6 cX10_unitIn RX10) (X : Rx E ad (some .int) (oI (fun r τ => τ = σ ∧ True)))  : ∀ (n : Nat) (a : Int32) (z : Int32), z.toInt.toNat < n → WP E ad 23 [some (.ref (ad 71)), some (.int i), some (.int k), some (.int x), some (.int a), some (.int z)] [] σ := by
  intro n
  induction n with
  | zero => intro a z hm9; exact absurd hm9 (Nat.not_lt_zero _)
  | succ n ih =>
    intro a z hm9
    refine s_iload C dX10_unitIn_23 rfl ?_
    refine s_if_le (tgt := 46) C dX10_unitIn_25 (by decide) (fun q1 => ?_) (fun q1 => ?_)
    · refine s_iload C dX10_unitIn_46 rfl ?_
      exact s_iret C X dX10_unitIn_48 ⟨rfl, trivial⟩
    · refine s_iload C dX10_unitIn_28 rfl ?_
      refine s_iload C dX10_unitIn_30 rfl ?_
      refine s_iconst C dX10_unitIn_32 (by decide) (fun z2 tz2 => ?_)
      refine s_irem C tz2 dX10_unitIn_33 (by omega) (by decide) (fun z3 tz3 => ?_)
      refine s_iaddU C dX10_unitIn_34 (fun z4 tz4 => ?_)
      refine s_istore C dX10_unitIn_35 (by decide) (Nat.le_of_ble_eq_true rfl) rfl ?_
      show WP E ad 37 [some (.ref (ad 71)), some (.int i), some (.int k), some (.int x), some (.int z4), some (.int z)] [] σ
      refine s_iload C dX10_unitIn_37 rfl ?_
      refine s_iconst C dX10_unitIn_39 (by decide) (fun z5 tz5 => ?_)
      refine s_idiv C tz5 dX10_unitIn_40 (by omega) (by decide) (fun z6 tz6 => ?_)
      refine s_istore C dX10_unitIn_41 (by decide) (Nat.le_of_ble_eq_true rfl) rfl ?_
      show WP E ad 43 [some (.ref (ad 71)), some (.int i), some (.int k), some (.int x), some (.int z4), some (.int z6)] [] σ
      refine s_goto (tgt := 23) C dX10_unitIn_43 (by decide) ?_
      exact ih z4 z6 (by omega)
set_option maxRecDepth 100000 in
theorem c_X10_unitIn (l : Launch) (ad : Nat → Nat) (σ : Sg) (i k : Int32) (hI : IM σ.1) (hi : 0 ≤ i.toInt ∧ i.toInt ≤ 1295) (B n k0 j0 : Nat) (hB : B + n ≤ 180) (hf : (σ.1 71 47).toInt = B + n) (hk : k.toInt = B + k0) (hu : un (σ.1 71 0).toInt (fun q => σ.1 85 (B + q)) n k0 j0) : Mt l yX10_unitIn cX10_unitIn 6 (some .int) 2 ad σ [.ref (ad 71), .int i, .int k] (oI (fun r τ => τ = σ ∧ True)) := by
  have hpr := hI.pr
  have hu2 := hu
  unfold un at hu2
  dsimp only at hu2
  have ek : Int32.toInt (σ.1 85 k.toNatClampNeg) = Int32.toInt (σ.1 85 (B + k0)) := by rw [show k.toNatClampNeg = B + k0 by unfold Int32.toNatClampNeg; omega]
  refine Mt_intro (by decide +kernel) (by simp [lg_sl, Value.category]) (fun E C X => ?_)
  show WP E ad 0 [some (.ref (ad 71)), some (.int i), some (.int k), none, none, none] [] σ
  refine s_aload_n C dX10_unitIn_0 rfl ?_
  refine s_getr (k := 16) (j := 85) C y71 fw_X10_55 rfl dX10_unitIn_1 ?_
  refine s_iload_n C dX10_unitIn_4 rfl ?_
  refine s_iald (r := (σ.1 85 k.toNatClampNeg)) C y85 (by omega) rfl dX10_unitIn_5 ?_
  refine s_istore_n C dX10_unitIn_6 (by decide) (Nat.le_of_ble_eq_true rfl) rfl ?_
  show WP E ad 7 [some (.ref (ad 71)), some (.int i), some (.int k), some (.int (σ.1 85 k.toNatClampNeg)), none, none] [] σ
  refine s_iload_n C dX10_unitIn_7 rfl ?_
  refine s_bipush C dX10_unitIn_8 (by decide) (fun z1 tz1 => ?_)
  refine s_icmp_ne (tgt := 49) C dX10_unitIn_10 (by decide) (fun q2 => ?_) (fun q2 => ?_)
  · refine s_iload_n C dX10_unitIn_49 rfl ?_
    refine s_bipush C dX10_unitIn_50 (by decide) (fun z3 tz3 => ?_)
    refine s_icmp_ne (tgt := 72) C dX10_unitIn_52 (by decide) (fun q4 => ?_) (fun q4 => ?_)
    · refine s_iload_n C dX10_unitIn_72 rfl ?_
      refine s_bipush C dX10_unitIn_73 (by decide) (fun z5 tz5 => ?_)
      refine s_icmp_ne (tgt := 99) C dX10_unitIn_75 (by decide) (fun q6 => ?_) (fun q6 => ?_)
      · refine s_iload_n C dX10_unitIn_99 rfl ?_
        refine s_bipush C dX10_unitIn_100 (by decide) (fun z7 tz7 => ?_)
        refine s_isub C dX10_unitIn_102 (by omega) (fun z8 tz8 => ?_)
        refine s_istore C dX10_unitIn_103 (by decide) (Nat.le_of_ble_eq_true rfl) rfl ?_
        show WP E ad 105 [some (.ref (ad 71)), some (.int i), some (.int k), some (.int (σ.1 85 k.toNatClampNeg)), some (.int z8), none] [] σ
        refine s_iload_n C dX10_unitIn_105 rfl ?_
        refine s_iconst C dX10_unitIn_106 (by decide) (fun z9 tz9 => ?_)
        refine s_iadd C dX10_unitIn_107 (by omega) (fun z10 tz10 => ?_)
        refine s_aload_n C dX10_unitIn_108 rfl ?_
        refine s_get (k := 47) (x := (σ.1 71 47)) C y71 fw_X10_280 rfl rfl dX10_unitIn_109 ?_
        refine s_icmp_ge (tgt := 149) C dX10_unitIn_112 (by decide) (fun q11 => ?_) (fun q11 => ?_)
        · refine s_iload C dX10_unitIn_149 rfl ?_
          exact s_iret C X dX10_unitIn_151 ⟨rfl, trivial⟩
        · refine s_aload_n C dX10_unitIn_115 rfl ?_
          refine s_getr (k := 16) (j := 85) C y71 fw_X10_55 rfl dX10_unitIn_116 ?_
          refine s_iload_n C dX10_unitIn_119 rfl ?_
          refine s_iconst C dX10_unitIn_120 (by decide) (fun z12 tz12 => ?_)
          refine s_iadd C dX10_unitIn_121 (by omega) (fun z13 tz13 => ?_)
          refine s_iald (r := (σ.1 85 z13.toNatClampNeg)) C y85 (by omega) rfl dX10_unitIn_122 ?_
          refine s_callSI (st := []) C (c_X10_isFigure l ad σ ((σ.1 85 z13.toNatClampNeg)) ) cv_X10_257 rfl rfl ⟨by decide, by decide⟩ (Nat.le_of_ble_eq_true rfl) dX10_unitIn_123 ?_
          intro r14 τ15 h16
          obtain ⟨eh16, h16⟩ := h16; replace eh16 := eh16.symm; subst eh16
          refine s_if_eq (tgt := 149) C dX10_unitIn_126 (by decide) (fun q17 => ?_) (fun q17 => ?_)
          · refine s_iload C dX10_unitIn_149 rfl ?_
            exact s_iret C X dX10_unitIn_151 ⟨rfl, trivial⟩
          · refine s_bipush C dX10_unitIn_129 (by decide) (fun z18 tz18 => ?_)
            refine s_iload C dX10_unitIn_131 rfl ?_
            refine s_imulL C tz18 dX10_unitIn_133 (by omega) (fun z19 tz19 => ?_)
            refine s_aload_n C dX10_unitIn_134 rfl ?_
            refine s_getr (k := 16) (j := 85) C y71 fw_X10_55 rfl dX10_unitIn_135 ?_
            refine s_iload_n C dX10_unitIn_138 rfl ?_
            refine s_iconst C dX10_unitIn_139 (by decide) (fun z20 tz20 => ?_)
            refine s_iadd C dX10_unitIn_140 (by omega) (fun z21 tz21 => ?_)
            refine s_iald (r := (σ.1 85 z21.toNatClampNeg)) C y85 (by omega) rfl dX10_unitIn_141 ?_
            refine s_iaddU C dX10_unitIn_142 (fun z22 tz22 => ?_)
            refine s_bipush C dX10_unitIn_143 (by decide) (fun z23 tz23 => ?_)
            refine s_isubU C dX10_unitIn_145 (fun z24 tz24 => ?_)
            refine s_goto (tgt := 151) C dX10_unitIn_146 (by decide) ?_
            exact s_iret C X dX10_unitIn_151 ⟨rfl, trivial⟩
      · refine s_aload_n C dX10_unitIn_78 rfl ?_
        refine s_getr (k := 42) (j := 104) C y71 fw_X10_113 rfl dX10_unitIn_79 ?_
        refine s_iconst C dX10_unitIn_82 (by decide) (fun z25 tz25 => ?_)
        refine s_iload_n C dX10_unitIn_83 rfl ?_
        refine s_imulL C tz25 dX10_unitIn_84 (by omega) (fun z26 tz26 => ?_)
        refine s_aload_n C dX10_unitIn_85 rfl ?_
        refine s_getr (k := 16) (j := 85) C y71 fw_X10_55 rfl dX10_unitIn_86 ?_
        refine s_iload_n C dX10_unitIn_89 rfl ?_
        refine s_iconst C dX10_unitIn_90 (by decide) (fun z27 tz27 => ?_)
        refine s_iadd C dX10_unitIn_91 (by omega) (fun z28 tz28 => ?_)
        refine s_iald (r := (σ.1 85 z28.toNatClampNeg)) C y85 (by omega) rfl dX10_unitIn_92 ?_
        have ez : Int32.toInt (σ.1 85 z28.toNatClampNeg) = Int32.toInt (σ.1 85 (B + (k0 + 1))) := by rw [show z28.toNatClampNeg = B + (k0 + 1) by unfold Int32.toNatClampNeg; omega]
        refine s_iadd C dX10_unitIn_93 (by omega) (fun z29 tz29 => ?_)
        refine s_bipush C dX10_unitIn_94 (by decide) (fun z30 tz30 => ?_)
        refine s_isub C dX10_unitIn_96 (by omega) (fun z31 tz31 => ?_)
        refine s_iald (r := (σ.1 104 z31.toNatClampNeg)) C y104 (by omega) rfl dX10_unitIn_97 ?_
        exact s_iret C X dX10_unitIn_98 ⟨rfl, trivial⟩
    · refine s_aload_n C dX10_unitIn_55 rfl ?_
      refine s_iload_n C dX10_unitIn_56 rfl ?_
      refine s_aload_n C dX10_unitIn_57 rfl ?_
      refine s_getr (k := 16) (j := 85) C y71 fw_X10_55 rfl dX10_unitIn_58 ?_
      refine s_iload_n C dX10_unitIn_61 rfl ?_
      refine s_iconst C dX10_unitIn_62 (by decide) (fun z32 tz32 => ?_)
      refine s_iadd C dX10_unitIn_63 (by omega) (fun z33 tz33 => ?_)
      refine s_iald (r := (σ.1 85 z33.toNatClampNeg)) C y85 (by omega) rfl dX10_unitIn_64 ?_
      have ez : Int32.toInt (σ.1 85 z33.toNatClampNeg) = Int32.toInt (σ.1 85 (B + (k0 + 1))) := by rw [show z33.toNatClampNeg = B + (k0 + 1) by unfold Int32.toNatClampNeg; omega]
      refine s_bipush C dX10_unitIn_65 (by decide) (fun z34 tz34 => ?_)
      refine s_isub C dX10_unitIn_67 (by omega) (fun z35 tz35 => ?_)
      refine s_callVI (st := []) C (c_X10_valueIn l ad σ i z35 hI (by omega) (by omega)) cv_X10_242 y71 rfl rfl rfl ⟨by decide, by decide⟩ (Nat.le_of_ble_eq_true rfl) dX10_unitIn_68 ?_
      intro r36 τ37 h38
      obtain ⟨eh38, h38⟩ := h38; replace eh38 := eh38.symm; subst eh38
      exact s_iret C X dX10_unitIn_71 ⟨rfl, trivial⟩
  · refine s_iconst C dX10_unitIn_13 (by decide) (fun z39 tz39 => ?_)
    refine s_istore C dX10_unitIn_14 (by decide) (Nat.le_of_ble_eq_true rfl) rfl ?_
    show WP E ad 16 [some (.ref (ad 71)), some (.int i), some (.int k), some (.int (σ.1 85 k.toNatClampNeg)), some (.int z39), none] [] σ
    refine s_aload_n C dX10_unitIn_16 rfl ?_
    refine s_iload_n C dX10_unitIn_17 rfl ?_
    refine s_callVI (st := []) C (c_X10_underOf l ad σ i hI (by omega)) cv_X10_239 y71 rfl rfl rfl ⟨by decide, by decide⟩ (Nat.le_of_ble_eq_true rfl) dX10_unitIn_18 ?_
    intro r40 τ41 h42
    obtain ⟨eh42, h42⟩ := h42; replace eh42 := eh42.symm; subst eh42
    refine s_istore C dX10_unitIn_21 (by decide) (Nat.le_of_ble_eq_true rfl) rfl ?_
    show WP E ad 23 [some (.ref (ad 71)), some (.int i), some (.int k), some (.int (σ.1 85 k.toNatClampNeg)), some (.int z39), some (.int r40)] [] σ
    exact L_unitIn l ad E σ i k (σ.1 85 k.toNatClampNeg) C X (r40.toInt.toNat + 1) z39 r40 (by omega)
