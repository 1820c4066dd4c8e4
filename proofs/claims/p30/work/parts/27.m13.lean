set_option maxRecDepth 100000 in
theorem L_tell79 (l : Launch) (ad : Nat → Nat) (E : Ev) (σ : Sg) (hI : IM σ.1) (C : Cx E l (rmk 4) 5 cX10_tell RX10) (X : Rx E ad (some .int) (oI (fun r τ => IM τ.1 ∧ Fr [73, 74, 75, 76, 77, 78, 79, 80, 81, 82, 83, 117, 118, 119, 120] [(71, 8), (71, 10), (71, 39), (71, 17), (71, 59), (71, 64), (71, 65)] σ τ ∧ (τ.1 71 17).toInt = 0)))  : ∀ (n : Nat) (τ : Sg) (z : Int32), (Fr [73, 74, 75, 76, 77, 78, 79, 80, 81, 82, 83, 117, 118, 119, 120] [(71, 8), (71, 10), (71, 39), (71, 17), (71, 59), (71, 64), (71, 65)] σ τ) → (IM τ.1) → ((τ.1 71 17).toInt = 0) → ((τ.1 71 59).toInt ≤ 12) → (0 ≤ z.toInt) → (12 - z.toInt).toNat < n → WP E ad 79 [some (.ref (ad 71)), some (.int z), none, none, none] [] τ := by
  intro n
  induction n with
  | zero => intro τ z kF kI kt ks h0 hm9; exact absurd hm9 (Nat.not_lt_zero _)
  | succ n ih =>
    intro τ z kF kI kt ks h0 hm9
    refine s_iload_n C dX10_tell_79 rfl ?_
    refine s_aload_n C dX10_tell_80 rfl ?_
    refine s_get (k := 59) (x := (τ.1 71 59)) C y71 fw_X10_333 rfl rfl dX10_tell_81 ?_
    refine s_icmp_ge (tgt := 172) C dX10_tell_84 (by decide) (fun q1 => ?_) (fun q1 => ?_)
    · refine s_aload_n C dX10_tell_172 rfl ?_
      refine s_get (k := 59) (x := (τ.1 71 59)) C y71 fw_X10_333 rfl rfl dX10_tell_173 ?_
      exact s_iret C X dX10_tell_176 ⟨kI, (Fr.tr Fr.rf (Fr.mo kF (by decide) (by decide))), kt⟩
    · refine s_aload_n C dX10_tell_87 rfl ?_
      refine s_getr (k := 61) (j := 118) C y71 fw_X10_156 rfl dX10_tell_88 ?_
      refine s_iload_n C dX10_tell_91 rfl ?_
      refine s_iald (r := (τ.1 118 z.toNatClampNeg)) C y118 (by omega) rfl dX10_tell_92 ?_
      refine s_istore_n C dX10_tell_93 (by decide) (Nat.le_of_ble_eq_true rfl) rfl ?_
      show WP E ad 94 [some (.ref (ad 71)), some (.int z), some (.int (τ.1 118 z.toNatClampNeg)), none, none] [] τ
      refine s_aload_n C dX10_tell_94 rfl ?_
      refine s_getr (k := 63) (j := 120) C y71 fw_X10_162 rfl dX10_tell_95 ?_
      refine s_iload_n C dX10_tell_98 rfl ?_
      refine s_iald (r := (τ.1 120 z.toNatClampNeg)) C y120 (by omega) rfl dX10_tell_99 ?_
      refine s_istore_n C dX10_tell_100 (by decide) (Nat.le_of_ble_eq_true rfl) rfl ?_
      show WP E ad 101 [some (.ref (ad 71)), some (.int z), some (.int (τ.1 118 z.toNatClampNeg)), some (.int (τ.1 120 z.toNatClampNeg)), none] [] τ
      refine s_aload_n C dX10_tell_101 rfl ?_
      refine s_getr (k := 60) (j := 117) C y71 fw_X10_153 rfl dX10_tell_102 ?_
      refine s_iload_n C dX10_tell_105 rfl ?_
      refine s_iald (r := (τ.1 117 z.toNatClampNeg)) C y117 (by omega) rfl dX10_tell_106 ?_
      refine s_bipush C dX10_tell_107 (by decide) (fun z2 tz2 => ?_)
      refine s_icmp_ne (tgt := 121) C dX10_tell_109 (by decide) (fun q3 => ?_) (fun q3 => ?_)
      · refine s_aload_n C dX10_tell_121 rfl ?_
        refine s_getr (k := 60) (j := 117) C y71 fw_X10_153 rfl dX10_tell_122 ?_
        refine s_iload_n C dX10_tell_125 rfl ?_
        refine s_iald (r := (τ.1 117 z.toNatClampNeg)) C y117 (by omega) rfl dX10_tell_126 ?_
        refine s_bipush C dX10_tell_127 (by decide) (fun z4 tz4 => ?_)
        refine s_icmp_ne (tgt := 141) C dX10_tell_129 (by decide) (fun q5 => ?_) (fun q5 => ?_)
        · refine s_aload_n C dX10_tell_141 rfl ?_
          refine s_iload_n C dX10_tell_142 rfl ?_
          refine s_aload_n C dX10_tell_143 rfl ?_
          refine s_getr (k := 62) (j := 119) C y71 fw_X10_159 rfl dX10_tell_144 ?_
          refine s_iload_n C dX10_tell_147 rfl ?_
          refine s_iald (r := (τ.1 119 z.toNatClampNeg)) C y119 (by omega) rfl dX10_tell_148 ?_
          refine s_iload_n C dX10_tell_149 rfl ?_
          refine s_callVI (st := []) C (c_X10_take l ad τ ((τ.1 118 z.toNatClampNeg)) ((τ.1 119 z.toNatClampNeg)) ((τ.1 120 z.toNatClampNeg)) kI) cv_X10_345 y71 rfl rfl rfl ⟨by decide, by decide⟩ (Nat.le_of_ble_eq_true rfl) dX10_tell_150 ?_
          intro r6 τ7 h8
          have kIτ7 := h8.1
          have ktτ7 : Int32.toInt (τ7.1 71 17) = 0 := (congrArg Int32.toInt (h8.2.f 71 17 (by decide) (by decide))).trans kt
          have ksτ7 : Int32.toInt (τ7.1 71 59) ≤ 12 := by rw [h8.2.f 71 59 (by decide) (by decide)]; exact ks
          refine s_istore C dX10_tell_153 (by decide) (Nat.le_of_ble_eq_true rfl) rfl ?_
          show WP E ad 155 [some (.ref (ad 71)), some (.int z), some (.int (τ.1 118 z.toNatClampNeg)), some (.int (τ.1 120 z.toNatClampNeg)), some (.int r6)] [] τ7
          refine s_iload C dX10_tell_155 rfl ?_
          refine s_if_ge (tgt := 166) C dX10_tell_157 (by decide) (fun q9 => ?_) (fun q9 => ?_)
          · refine s_iinc C dX10_tell_166 rfl (by decide) rfl (by decide) (by omega) (fun z10 tz10 => ?_)
            show WP E ad 169 [some (.ref (ad 71)), some (.int z10), some (.int (τ.1 118 z.toNatClampNeg)), some (.int (τ.1 120 z.toNatClampNeg)), some (.int r6)] [] τ7
            refine s_goto (tgt := 79) C dX10_tell_169 (by decide) ?_
            refine wp_le (lv' := [some (.ref (ad 71)), some (.int z10), none, none, none]) ⟨rfl, ⟨rfl, trivial⟩⟩ ?_
            exact ih τ7 z10 (Fr.tr (Fr.tr Fr.rf (Fr.mo kF (by decide) (by decide))) (Fr.mo h8.2 (by decide) (by decide))) kIτ7 ktτ7 ksτ7 (by omega) (by omega)
          · refine s_sipush C dX10_tell_160 (by decide) (fun z11 tz11 => ?_)
            refine s_iload_n C dX10_tell_163 rfl ?_
            refine s_isub C dX10_tell_164 (by omega) (fun z12 tz12 => ?_)
            exact s_iret C X dX10_tell_165 ⟨kIτ7, (Fr.tr (Fr.tr Fr.rf (Fr.mo kF (by decide) (by decide))) (Fr.mo h8.2 (by decide) (by decide))), ktτ7⟩
        · refine s_aload_n C dX10_tell_132 rfl ?_
          refine s_iload_n C dX10_tell_133 rfl ?_
          refine s_iload_n C dX10_tell_134 rfl ?_
          refine s_callVI (st := []) C (c_X10_send l ad τ ((τ.1 118 z.toNatClampNeg)) ((τ.1 120 z.toNatClampNeg)) kI) cv_X10_342 y71 rfl rfl rfl ⟨by decide, by decide⟩ (Nat.le_of_ble_eq_true rfl) dX10_tell_135 ?_
          intro r13 τ14 h15
          have kIτ14 := h15.1
          have ktτ14 : Int32.toInt (τ14.1 71 17) = 0 := (congrArg Int32.toInt (h15.2.f 71 17 (by decide) (by decide))).trans kt
          have ksτ14 : Int32.toInt (τ14.1 71 59) ≤ 12 := by rw [h15.2.f 71 59 (by decide) (by decide)]; exact ks
          refine s_goto (tgt := 153) C dX10_tell_138 (by decide) ?_
          refine s_istore C dX10_tell_153 (by decide) (Nat.le_of_ble_eq_true rfl) rfl ?_
          show WP E ad 155 [some (.ref (ad 71)), some (.int z), some (.int (τ.1 118 z.toNatClampNeg)), some (.int (τ.1 120 z.toNatClampNeg)), some (.int r13)] [] τ14
          refine s_iload C dX10_tell_155 rfl ?_
          refine s_if_ge (tgt := 166) C dX10_tell_157 (by decide) (fun q16 => ?_) (fun q16 => ?_)
          · refine s_iinc C dX10_tell_166 rfl (by decide) rfl (by decide) (by omega) (fun z17 tz17 => ?_)
            show WP E ad 169 [some (.ref (ad 71)), some (.int z17), some (.int (τ.1 118 z.toNatClampNeg)), some (.int (τ.1 120 z.toNatClampNeg)), some (.int r13)] [] τ14
            refine s_goto (tgt := 79) C dX10_tell_169 (by decide) ?_
            refine wp_le (lv' := [some (.ref (ad 71)), some (.int z17), none, none, none]) ⟨rfl, ⟨rfl, trivial⟩⟩ ?_
            exact ih τ14 z17 (Fr.tr (Fr.tr Fr.rf (Fr.mo kF (by decide) (by decide))) (Fr.mo h15.2 (by decide) (by decide))) kIτ14 ktτ14 ksτ14 (by omega) (by omega)
          · refine s_sipush C dX10_tell_160 (by decide) (fun z18 tz18 => ?_)
            refine s_iload_n C dX10_tell_163 rfl ?_
            refine s_isub C dX10_tell_164 (by omega) (fun z19 tz19 => ?_)
            exact s_iret C X dX10_tell_165 ⟨kIτ14, (Fr.tr (Fr.tr Fr.rf (Fr.mo kF (by decide) (by decide))) (Fr.mo h15.2 (by decide) (by decide))), ktτ14⟩
      · refine s_aload_n C dX10_tell_112 rfl ?_
        refine s_iload_n C dX10_tell_113 rfl ?_
        refine s_iload_n C dX10_tell_114 rfl ?_
        refine s_callVI (st := []) C (c_X10_step l ad τ ((τ.1 118 z.toNatClampNeg)) ((τ.1 120 z.toNatClampNeg)) kI) cv_X10_339 y71 rfl rfl rfl ⟨by decide, by decide⟩ (Nat.le_of_ble_eq_true rfl) dX10_tell_115 ?_
        intro r20 τ21 h22
        have kIτ21 := h22.1
        have ktτ21 : Int32.toInt (τ21.1 71 17) = 0 := (congrArg Int32.toInt (h22.2.f 71 17 (by decide) (by decide))).trans kt
        have ksτ21 : Int32.toInt (τ21.1 71 59) ≤ 12 := by rw [h22.2.f 71 59 (by decide) (by decide)]; exact ks
        refine s_goto (tgt := 153) C dX10_tell_118 (by decide) ?_
        refine s_istore C dX10_tell_153 (by decide) (Nat.le_of_ble_eq_true rfl) rfl ?_
        show WP E ad 155 [some (.ref (ad 71)), some (.int z), some (.int (τ.1 118 z.toNatClampNeg)), some (.int (τ.1 120 z.toNatClampNeg)), some (.int r20)] [] τ21
        refine s_iload C dX10_tell_155 rfl ?_
        refine s_if_ge (tgt := 166) C dX10_tell_157 (by decide) (fun q23 => ?_) (fun q23 => ?_)
        · refine s_iinc C dX10_tell_166 rfl (by decide) rfl (by decide) (by omega) (fun z24 tz24 => ?_)
          show WP E ad 169 [some (.ref (ad 71)), some (.int z24), some (.int (τ.1 118 z.toNatClampNeg)), some (.int (τ.1 120 z.toNatClampNeg)), some (.int r20)] [] τ21
          refine s_goto (tgt := 79) C dX10_tell_169 (by decide) ?_
          refine wp_le (lv' := [some (.ref (ad 71)), some (.int z24), none, none, none]) ⟨rfl, ⟨rfl, trivial⟩⟩ ?_
          exact ih τ21 z24 (Fr.tr (Fr.tr Fr.rf (Fr.mo kF (by decide) (by decide))) (Fr.mo h22.2 (by decide) (by decide))) kIτ21 ktτ21 ksτ21 (by omega) (by omega)
        · refine s_sipush C dX10_tell_160 (by decide) (fun z25 tz25 => ?_)
          refine s_iload_n C dX10_tell_163 rfl ?_
          refine s_isub C dX10_tell_164 (by omega) (fun z26 tz26 => ?_)
          exact s_iret C X dX10_tell_165 ⟨kIτ21, (Fr.tr (Fr.tr Fr.rf (Fr.mo kF (by decide) (by decide))) (Fr.mo h22.2 (by decide) (by decide))), ktτ21⟩
set_option maxRecDepth 100000 in
theorem E_tell57 (l : Launch) (ad : Nat → Nat) (E : Ev) (σ : Sg) (hI : IM σ.1) (τ : Sg) (C : Cx E l (rmk 4) 5 cX10_tell RX10) (X : Rx E ad (some .int) (oI (fun r τ => IM τ.1 ∧ Fr [73, 74, 75, 76, 77, 78, 79, 80, 81, 82, 83, 117, 118, 119, 120] [(71, 8), (71, 10), (71, 39), (71, 17), (71, 59), (71, 64), (71, 65)] σ τ ∧ (τ.1 71 17).toInt = 0)))  (kF : Fr [117, 118, 119, 120] [(71, 17), (71, 59), (71, 64), (71, 65)] σ τ) (kI : IM τ.1) (hq : 0 ≤ (τ.1 71 64).toInt ∧ (τ.1 71 64).toInt ≤ 60) (hs : 0 ≤ (τ.1 71 59).toInt ∧ (τ.1 71 59).toInt ≤ 12) : WP E ad 57 [some (.ref (ad 71)), none, none, none, none] [] τ := by
  refine s_aload_n C dX10_tell_57 rfl ?_
  refine s_iconst C dX10_tell_58 (by decide) (fun z1 tz1 => ?_)
  refine s_put (k := 17) C y71 fw_X10_247 fp_9_17 rfl dX10_tell_59 ?_
  refine s_aload_n C dX10_tell_62 rfl ?_
  refine s_get (k := 65) (x := (τ.1 71 65)) C y71 fw_X10_321 rfl rfl dX10_tell_63 ?_
  refine s_if_eq (tgt := 77) C dX10_tell_66 (by decide) (fun q2 => ?_) (fun q2 => ?_)
  · refine s_iconst C dX10_tell_77 (by decide) (fun z3 tz3 => ?_)
    refine s_istore_n C dX10_tell_78 (by decide) (Nat.le_of_ble_eq_true rfl) rfl ?_
    show WP E ad 79 [some (.ref (ad 71)), some (.int z3), none, none, none] [] (sV τ 71 17 z1)
    exact L_tell79 l ad E σ hI C X 100 (sV τ 71 17 z1) z3 (Fr.mo (Fr.sV (Fr.tr Fr.rf (Fr.mo kF (by decide) (by decide))) (Or.inr (by decide))) (cs := [117, 118, 119, 120]) (fs := [(71, 17), (71, 59), (71, 64), (71, 65)]) (by decide) (by decide)) (⟨kI.1, kI.2.1, (by show 0 ≤ Int32.toInt z1 ∧ Int32.toInt z1 ≤ 60; omega), kI.2.2.2.1, kI.2.2.2.2.1, kI.2.2.2.2.2.1, kI.2.2.2.2.2.2⟩ : IM (sV τ 71 17 z1).1) (by show Int32.toInt z1 = 0; omega) (by show Int32.toInt (τ.1 71 59) ≤ 12; omega) (by omega) (by omega)
  · refine s_bipush C dX10_tell_69 (by decide) (fun z4 tz4 => ?_)
    refine s_aload_n C dX10_tell_71 rfl ?_
    refine s_get (k := 64) (x := (τ.1 71 64)) C y71 fw_X10_324 rfl rfl dX10_tell_72 ?_
    refine s_isub C dX10_tell_75 (by omega) (fun z5 tz5 => ?_)
    exact s_iret C X dX10_tell_76 ⟨(⟨kI.1, kI.2.1, (by show 0 ≤ Int32.toInt z1 ∧ Int32.toInt z1 ≤ 60; omega), kI.2.2.2.1, kI.2.2.2.2.1, kI.2.2.2.2.2.1, kI.2.2.2.2.2.2⟩ : IM (sV τ 71 17 z1).1), (Fr.mo (Fr.sV (Fr.tr Fr.rf (Fr.mo kF (by decide) (by decide))) (Or.inr (by decide))) (cs := [117, 118, 119, 120]) (fs := [(71, 17), (71, 59), (71, 64), (71, 65)]) (by decide) (by decide)), by show Int32.toInt z1 = 0; omega⟩
set_option maxRecDepth 100000 in
theorem L_tell19 (l : Launch) (ad : Nat → Nat) (E : Ev) (σ : Sg) (hI : IM σ.1) (C : Cx E l (rmk 4) 5 cX10_tell RX10) (X : Rx E ad (some .int) (oI (fun r τ => IM τ.1 ∧ Fr [73, 74, 75, 76, 77, 78, 79, 80, 81, 82, 83, 117, 118, 119, 120] [(71, 8), (71, 10), (71, 39), (71, 17), (71, 59), (71, 64), (71, 65)] σ τ ∧ (τ.1 71 17).toInt = 0)))  : ∀ (n : Nat) (τ : Sg), (Fr [117, 118, 119, 120] [(71, 64), (71, 65), (71, 59)] σ τ) → ((τ.1 71 65).toInt = 0 ∨ (τ.1 71 65).toInt = 1) → (0 ≤ (τ.1 71 64).toInt ∧ (τ.1 71 64).toInt ≤ (σ.1 71 17).toInt) → (0 ≤ (τ.1 71 59).toInt ∧ (τ.1 71 59).toInt ≤ 11) → ((τ.1 71 65).toInt = 0 → 6 * (τ.1 71 59).toInt ≤ (τ.1 71 64).toInt + 1) → (if (τ.1 71 65).toInt = 0 then (61 - (τ.1 71 64).toInt).toNat else 0) < n → WP E ad 19 [some (.ref (ad 71)), none, none, none, none] [] τ := by
  intro n
  induction n with
  | zero => intro τ kF hb hq hs hm hm9; exact absurd hm9 (Nat.not_lt_zero _)
  | succ n ih =>
    intro τ kF hb hq hs hm hm9
    have htp := hI.tp
    have f17 : (τ.1 71 17).toInt = (σ.1 71 17).toInt := congrArg Int32.toInt (kF.f 71 17 (by decide) (by decide))
    refine s_aload_n C dX10_tell_19 rfl ?_
    refine s_get (k := 65) (x := (τ.1 71 65)) C y71 fw_X10_321 rfl rfl dX10_tell_20 ?_
    refine s_if_ne (tgt := 57) C dX10_tell_23 (by decide) (fun q1 => ?_) (fun q1 => ?_)
    · exact E_tell57 l ad E σ hI τ C X ((Fr.tr Fr.rf (Fr.mo kF (by decide) (by decide))) |>.mo (cs := [117, 118, 119, 120]) (fs := [(71, 64), (71, 65), (71, 59)]) (by decide) (by decide)) (IM.keep hI kF (by decide) (by decide) (by decide)) (by omega) (by omega)
    · refine s_aload_n C dX10_tell_26 rfl ?_
      refine s_get (k := 64) (x := (τ.1 71 64)) C y71 fw_X10_324 rfl rfl dX10_tell_27 ?_
      refine s_aload_n C dX10_tell_30 rfl ?_
      refine s_get (k := 17) (x := (τ.1 71 17)) C y71 fw_X10_247 rfl rfl dX10_tell_31 ?_
      refine s_icmp_ge (tgt := 57) C dX10_tell_34 (by decide) (fun q2 => ?_) (fun q2 => ?_)
      · exact E_tell57 l ad E σ hI τ C X ((Fr.tr Fr.rf (Fr.mo kF (by decide) (by decide))) |>.mo (cs := [117, 118, 119, 120]) (fs := [(71, 64), (71, 65), (71, 59)]) (by decide) (by decide)) (IM.keep hI kF (by decide) (by decide) (by decide)) (by omega) (by omega)
      · refine s_aload_n C dX10_tell_37 rfl ?_
        refine s_bipush C dX10_tell_38 (by decide) (fun z3 tz3 => ?_)
        refine s_callVV (st := []) C (c_X10_wants l ad τ z3 (by omega) (by show 0 ≤ Int32.toInt (τ.1 71 17) ∧ Int32.toInt (τ.1 71 17) ≤ 60; omega) (by show 0 ≤ Int32.toInt (τ.1 71 64) ∧ Int32.toInt (τ.1 71 64) ≤ Int32.toInt (τ.1 71 17); omega) (by show Int32.toInt (τ.1 71 65) = 0 ∨ Int32.toInt (τ.1 71 65) = 1; omega)) cv_X10_327 y71 rfl rfl rfl ⟨by decide, by decide⟩ (Nat.le_of_ble_eq_true rfl) dX10_tell_40 ?_
        intro τ5 h6
        have fh6 : Int32.toInt (τ5.1 71 17) = Int32.toInt (τ.1 71 17) := congrArg Int32.toInt (h6.1.f 71 17 (by decide) (by decide))
        have gh6 : (Int32.toInt (τ5.1 71 65) = 1 ∧ Int32.toInt (τ5.1 71 64) = Int32.toInt (τ.1 71 64) ∨ Int32.toInt (τ5.1 71 65) = 0 ∧ Int32.toInt (τ5.1 71 64) = Int32.toInt (τ.1 71 64) + 1 ∧ Int32.toInt (τ.1 71 65) = 0 ∧ Int32.toInt (τ5.1 71 64) ≤ Int32.toInt (τ.1 71 17)) := h6.2
        have sh6 : Int32.toInt (τ5.1 71 59) = Int32.toInt (τ.1 71 59) := congrArg Int32.toInt (h6.1.f 71 59 (by decide) (by decide))
        refine s_aload_n C dX10_tell_43 rfl ?_
        refine s_get (k := 65) (x := (τ5.1 71 65)) C y71 fw_X10_321 rfl rfl dX10_tell_44 ?_
        refine s_if_ne (tgt := 19) C dX10_tell_47 (by decide) (fun q7 => ?_) (fun q7 => ?_)
        · exact ih τ5 (Fr.tr (Fr.tr Fr.rf (Fr.mo kF (by decide) (by decide))) (Fr.mo h6.1 (by decide) (by decide))) (by show Int32.toInt (τ5.1 71 65) = 0 ∨ Int32.toInt (τ5.1 71 65) = 1; omega) (by show 0 ≤ Int32.toInt (τ5.1 71 64) ∧ Int32.toInt (τ5.1 71 64) ≤ _; omega) (by show 0 ≤ Int32.toInt (τ5.1 71 59) ∧ Int32.toInt (τ5.1 71 59) ≤ 11; omega) (fun q => by replace q : Int32.toInt (τ5.1 71 65) = 0 := q; show 6 * Int32.toInt (τ5.1 71 59) ≤ Int32.toInt (τ5.1 71 64) + 1; omega) (by show (if Int32.toInt (τ5.1 71 65) = 0 then (61 - Int32.toInt (τ5.1 71 64)).toNat else 0) < n; split at hm9 <;> split <;> omega)
        · refine s_aload_n C dX10_tell_50 rfl ?_
          refine s_callVV (st := []) C (c_X10_statement l ad τ5 (by show 0 ≤ Int32.toInt (τ5.1 71 17) ∧ Int32.toInt (τ5.1 71 17) ≤ 60; omega) (by show 0 ≤ Int32.toInt (τ5.1 71 64) ∧ Int32.toInt (τ5.1 71 64) ≤ Int32.toInt (τ5.1 71 17); omega) (by show Int32.toInt (τ5.1 71 65) = 0 ∨ Int32.toInt (τ5.1 71 65) = 1; omega) (by show 0 ≤ Int32.toInt (τ5.1 71 59) ∧ 6 * Int32.toInt (τ5.1 71 59) ≤ Int32.toInt (τ5.1 71 64); omega)) cv_X10_336 y71 rfl rfl rfl ⟨by decide, by decide⟩ (Nat.le_of_ble_eq_true rfl) dX10_tell_51 ?_
          intro τ9 h10
          have fh10 : Int32.toInt (τ9.1 71 17) = Int32.toInt (τ5.1 71 17) := congrArg Int32.toInt (h10.1.f 71 17 (by decide) (by decide))
          have ah10 : 0 ≤ Int32.toInt (τ9.1 71 64) := h10.2.1
          have bh10 : Int32.toInt (τ9.1 71 64) ≤ Int32.toInt (τ5.1 71 17) := h10.2.2.1
          have gh10 : (Int32.toInt (τ9.1 71 65) = 1 ∧ Int32.toInt (τ9.1 71 59) = Int32.toInt (τ5.1 71 59) ∨ Int32.toInt (τ9.1 71 65) = 0 ∧ Int32.toInt (τ9.1 71 59) = Int32.toInt (τ5.1 71 59) + 1 ∧ Int32.toInt (τ5.1 71 64) + 5 ≤ Int32.toInt (τ9.1 71 64)) := h10.2.2.2
          refine s_goto (tgt := 19) C dX10_tell_54 (by decide) ?_
          exact ih τ9 (Fr.tr (Fr.tr (Fr.tr Fr.rf (Fr.mo kF (by decide) (by decide))) (Fr.mo h6.1 (by decide) (by decide))) (Fr.mo h10.1 (by decide) (by decide))) (by show Int32.toInt (τ9.1 71 65) = 0 ∨ Int32.toInt (τ9.1 71 65) = 1; omega) (by show 0 ≤ Int32.toInt (τ9.1 71 64) ∧ Int32.toInt (τ9.1 71 64) ≤ _; omega) (by show 0 ≤ Int32.toInt (τ9.1 71 59) ∧ Int32.toInt (τ9.1 71 59) ≤ 11; omega) (fun q => by replace q : Int32.toInt (τ9.1 71 65) = 0 := q; show 6 * Int32.toInt (τ9.1 71 59) ≤ Int32.toInt (τ9.1 71 64) + 1; omega) (by show (if Int32.toInt (τ9.1 71 65) = 0 then (61 - Int32.toInt (τ9.1 71 64)).toNat else 0) < n; split at hm9 <;> split <;> omega)
set_option maxRecDepth 100000 in
theorem c_X10_tell (l : Launch) (ad : Nat → Nat) (σ : Sg) (hI : IM σ.1) : Mt l yX10_tell cX10_tell 5 (some .int) 4 ad σ [.ref (ad 71)] (oI (fun r τ => IM τ.1 ∧ Fr [73, 74, 75, 76, 77, 78, 79, 80, 81, 82, 83, 117, 118, 119, 120] [(71, 8), (71, 10), (71, 39), (71, 17), (71, 59), (71, 64), (71, 65)] σ τ ∧ (τ.1 71 17).toInt = 0)) := by
  have htp := hI.tp
  refine Mt_intro (by decide +kernel) (by simp [lg_sl, Value.category]) (fun E C X => ?_)
  show WP E ad 0 [some (.ref (ad 71)), none, none, none, none] [] σ
  refine s_aload_n C dX10_tell_0 rfl ?_
  refine s_iconst C dX10_tell_1 (by decide) (fun z1 tz1 => ?_)
  refine s_put (k := 59) C y71 fw_X10_333 fp_9_59 rfl dX10_tell_2 ?_
  refine s_aload_n C dX10_tell_5 rfl ?_
  refine s_iconst C dX10_tell_6 (by decide) (fun z2 tz2 => ?_)
  refine s_put (k := 64) C y71 fw_X10_324 fp_9_64 rfl dX10_tell_7 ?_
  refine s_aload_n C dX10_tell_10 rfl ?_
  refine s_iconst C dX10_tell_11 (by decide) (fun z3 tz3 => ?_)
  refine s_putz (k := 65) C y71 fw_X10_321 fp_9_65 rfl (by omega) dX10_tell_12 ?_
  refine s_aload_n C dX10_tell_15 rfl ?_
  refine s_callVV (st := []) C (c_X10_statement l ad (sV (sV (sV σ 71 59 z1) 71 64 z2) 71 65 z3) (by show 0 ≤ Int32.toInt (σ.1 71 17) ∧ Int32.toInt (σ.1 71 17) ≤ 60; omega) (by show 0 ≤ Int32.toInt z2 ∧ Int32.toInt z2 ≤ Int32.toInt (σ.1 71 17); omega) (by show Int32.toInt z3 = 0 ∨ Int32.toInt z3 = 1; omega) (by show 0 ≤ Int32.toInt z1 ∧ 6 * Int32.toInt z1 ≤ Int32.toInt z2; omega)) cv_X10_336 y71 rfl rfl rfl ⟨by decide, by decide⟩ (Nat.le_of_ble_eq_true rfl) dX10_tell_16 ?_
  intro τ5 h6
  have fh6 : Int32.toInt (τ5.1 71 17) = Int32.toInt (σ.1 71 17) := congrArg Int32.toInt (h6.1.f 71 17 (by decide) (by decide))
  have ah6 : 0 ≤ Int32.toInt (τ5.1 71 64) := h6.2.1
  have bh6 : Int32.toInt (τ5.1 71 64) ≤ Int32.toInt (σ.1 71 17) := h6.2.2.1
  have gh6 : (Int32.toInt (τ5.1 71 65) = 1 ∧ Int32.toInt (τ5.1 71 59) = Int32.toInt z1 ∨ Int32.toInt (τ5.1 71 65) = 0 ∧ Int32.toInt (τ5.1 71 59) = Int32.toInt z1 + 1 ∧ Int32.toInt z2 + 5 ≤ Int32.toInt (τ5.1 71 64)) := h6.2.2.2
  exact L_tell19 l ad E σ hI C X 100 τ5 (Fr.tr (Fr.sV (Fr.sV (Fr.sV Fr.rf (Or.inr (by decide))) (Or.inr (by decide))) (Or.inr (by decide))) (Fr.mo h6.1 (by decide) (by decide))) (by show Int32.toInt (τ5.1 71 65) = 0 ∨ Int32.toInt (τ5.1 71 65) = 1; omega) (by show 0 ≤ Int32.toInt (τ5.1 71 64) ∧ Int32.toInt (τ5.1 71 64) ≤ _; omega) (by show 0 ≤ Int32.toInt (τ5.1 71 59) ∧ Int32.toInt (τ5.1 71 59) ≤ 11; omega) (fun q => by replace q : Int32.toInt (τ5.1 71 65) = 0 := q; show 6 * Int32.toInt (τ5.1 71 59) ≤ Int32.toInt (τ5.1 71 64) + 1; omega) (by show (if Int32.toInt (τ5.1 71 65) = 0 then (61 - Int32.toInt (τ5.1 71 64)).toNat else 0) < 100; split <;> omega)
