set_option maxRecDepth 100000 in
theorem L_line2 (l : Launch) (ad : Nat → Nat) (E : Ev) (σ τ : Sg) (kF : Fr [103, 104, 105, 106] [(71, 39), (71, 40)] σ τ) (kI : IM τ.1) (a i : Int32) (ha : 0 ≤ a.toInt ∧ a.toInt ≤ 1295) (hi : 0 ≤ i.toInt ∧ i.toInt ≤ 1295) (C : Cx E l (rmk 3) 6 cX10_line RX10) (X : Rx E ad (some .int) (oI (fun r τ => IM τ.1 ∧ Fr [103, 104, 105, 106] [(71, 39), (71, 40)] σ τ ∧ True))) (K : ∀ b q : Int32, q.toInt = i.toInt + 1 → (b.toInt = i.toInt ∨ b = a) → WP E ad 8 [some (.ref (ad 71)), some (.int b), some (.int q), none, none, none] [] τ) : ∀ (n : Nat) (y : Int32) (z : Int32), (0 ≤ z.toInt) → (4 - z.toInt).toNat < n → WP E ad 21 [some (.ref (ad 71)), some (.int a), some (.int i), some (.int y), some (.int z), none] [] τ := by
  intro n
  induction n with
  | zero => intro y z h0 hm9; exact absurd hm9 (Nat.not_lt_zero _)
  | succ n ih =>
    intro y z h0 hm9
    have hpr := kI.pr
    refine s_iload C dX10_line_21 rfl ?_
    refine s_aload_n C dX10_line_23 rfl ?_
    refine s_get (k := 0) (x := (τ.1 71 0)) C y71 fw_X10_9 rfl rfl dX10_line_24 ?_
    refine s_icmp_ge (tgt := 80) C dX10_line_27 (by decide) (fun q1 => ?_) (fun q1 => ?_)
    · refine s_iload_n C dX10_line_80 rfl ?_
      refine s_if_eq (tgt := 101) C dX10_line_81 (by decide) (fun q2 => ?_) (fun q2 => ?_)
      · refine s_iload_n C dX10_line_101 rfl ?_
        refine s_istore_n C dX10_line_102 (by decide) (Nat.le_of_ble_eq_true rfl) rfl ?_
        show WP E ad 103 [some (.ref (ad 71)), some (.int a), some (.int i), some (.int y), some (.int z), none] [] τ
        refine s_iinc C dX10_line_103 rfl (by decide) rfl (by decide) (by omega) (fun z3 tz3 => ?_)
        show WP E ad 106 [some (.ref (ad 71)), some (.int a), some (.int z3), some (.int y), some (.int z), none] [] τ
        refine s_goto (tgt := 8) C dX10_line_106 (by decide) ?_
        refine wp_le (lv' := [some (.ref (ad 71)), some (.int a), some (.int z3), none, none, none]) ⟨rfl, ⟨rfl, ⟨rfl, trivial⟩⟩⟩ ?_
        exact K a z3 (by omega) (by first | exact Or.inr rfl | exact Or.inl rfl)
      · refine s_aload_n C dX10_line_84 rfl ?_
        refine s_iload_n C dX10_line_85 rfl ?_
        refine s_callVI (st := []) C (c_X10_levelOf l ad τ i kI.cu.2.1 (by omega)) cv_X10_225 y71 rfl rfl rfl ⟨by decide, by decide⟩ (Nat.le_of_ble_eq_true rfl) dX10_line_86 ?_
        intro r4 τ5 h6
        obtain ⟨eh6, h6⟩ := h6; replace eh6 := eh6.symm; subst eh6
        refine s_aload_n C dX10_line_89 rfl ?_
        refine s_iload_n C dX10_line_90 rfl ?_
        refine s_callVI (st := [.int r4]) C (c_X10_levelOf l ad τ a kI.cu.2.1 (by omega)) cv_X10_225 y71 rfl rfl rfl ⟨by decide, by decide⟩ (Nat.le_of_ble_eq_true rfl) dX10_line_91 ?_
        intro r7 τ8 h9
        obtain ⟨eh9, h9⟩ := h9; replace eh9 := eh9.symm; subst eh9
        refine s_icmp_le (tgt := 101) C dX10_line_94 (by decide) (fun q10 => ?_) (fun q10 => ?_)
        · refine s_iload_n C dX10_line_101 rfl ?_
          refine s_istore_n C dX10_line_102 (by decide) (Nat.le_of_ble_eq_true rfl) rfl ?_
          show WP E ad 103 [some (.ref (ad 71)), some (.int a), some (.int i), some (.int y), some (.int z), none] [] τ
          refine s_iinc C dX10_line_103 rfl (by decide) rfl (by decide) (by omega) (fun z11 tz11 => ?_)
          show WP E ad 106 [some (.ref (ad 71)), some (.int a), some (.int z11), some (.int y), some (.int z), none] [] τ
          refine s_goto (tgt := 8) C dX10_line_106 (by decide) ?_
          refine wp_le (lv' := [some (.ref (ad 71)), some (.int a), some (.int z11), none, none, none]) ⟨rfl, ⟨rfl, ⟨rfl, trivial⟩⟩⟩ ?_
          exact K a z11 (by omega) (by first | exact Or.inr rfl | exact Or.inl rfl)
        · refine s_iload_n C dX10_line_97 rfl ?_
          refine s_goto (tgt := 102) C dX10_line_98 (by decide) ?_
          refine s_istore_n C dX10_line_102 (by decide) (Nat.le_of_ble_eq_true rfl) rfl ?_
          show WP E ad 103 [some (.ref (ad 71)), some (.int i), some (.int i), some (.int y), some (.int z), none] [] τ
          refine s_iinc C dX10_line_103 rfl (by decide) rfl (by decide) (by omega) (fun z12 tz12 => ?_)
          show WP E ad 106 [some (.ref (ad 71)), some (.int i), some (.int z12), some (.int y), some (.int z), none] [] τ
          refine s_goto (tgt := 8) C dX10_line_106 (by decide) ?_
          refine wp_le (lv' := [some (.ref (ad 71)), some (.int i), some (.int z12), none, none, none]) ⟨rfl, ⟨rfl, ⟨rfl, trivial⟩⟩⟩ ?_
          exact K i z12 (by omega) (by first | exact Or.inr rfl | exact Or.inl rfl)
    · refine s_aload_n C dX10_line_30 rfl ?_
      refine s_getr (k := 42) (j := 104) C y71 fw_X10_113 rfl dX10_line_31 ?_
      refine s_iconst C dX10_line_34 (by decide) (fun z13 tz13 => ?_)
      refine s_iload_n C dX10_line_35 rfl ?_
      refine s_imulL C tz13 dX10_line_36 (by omega) (fun z14 tz14 => ?_)
      refine s_iload C dX10_line_37 rfl ?_
      refine s_iadd C dX10_line_39 (by omega) (fun z15 tz15 => ?_)
      refine s_iald (r := (τ.1 104 z15.toNatClampNeg)) C y104 (by omega) rfl dX10_line_40 ?_
      have b16 := kI.cu.2.1 z15.toNatClampNeg
      refine s_istore C dX10_line_41 (by decide) (Nat.le_of_ble_eq_true rfl) rfl ?_
      show WP E ad 43 [some (.ref (ad 71)), some (.int a), some (.int i), some (.int y), some (.int z), some (.int (τ.1 104 z15.toNatClampNeg))] [] τ
      refine s_iload_n C dX10_line_43 rfl ?_
      refine s_if_eq (tgt := 72) C dX10_line_44 (by decide) (fun q17 => ?_) (fun q17 => ?_)
      · refine s_iconst C dX10_line_72 (by decide) (fun z18 tz18 => ?_)
        refine s_istore_n C dX10_line_73 (by decide) (Nat.le_of_ble_eq_true rfl) rfl ?_
        show WP E ad 74 [some (.ref (ad 71)), some (.int a), some (.int i), some (.int z18), some (.int z), some (.int (τ.1 104 z15.toNatClampNeg))] [] τ
        refine s_iinc C dX10_line_74 rfl (by decide) rfl (by decide) (by omega) (fun z19 tz19 => ?_)
        show WP E ad 77 [some (.ref (ad 71)), some (.int a), some (.int i), some (.int z18), some (.int z19), some (.int (τ.1 104 z15.toNatClampNeg))] [] τ
        refine s_goto (tgt := 21) C dX10_line_77 (by decide) ?_
        refine wp_le (lv' := [some (.ref (ad 71)), some (.int a), some (.int i), some (.int z18), some (.int z19), none]) ⟨rfl, ⟨rfl, ⟨rfl, ⟨rfl, ⟨rfl, trivial⟩⟩⟩⟩⟩ ?_
        exact ih z18 z19 (by omega) (by omega)
      · refine s_iload C dX10_line_47 rfl ?_
        refine s_if_eq (tgt := 68) C dX10_line_49 (by decide) (fun q20 => ?_) (fun q20 => ?_)
        · refine s_iconst C dX10_line_68 (by decide) (fun z21 tz21 => ?_)
          refine s_goto (tgt := 73) C dX10_line_69 (by decide) ?_
          refine s_istore_n C dX10_line_73 (by decide) (Nat.le_of_ble_eq_true rfl) rfl ?_
          show WP E ad 74 [some (.ref (ad 71)), some (.int a), some (.int i), some (.int z21), some (.int z), some (.int (τ.1 104 z15.toNatClampNeg))] [] τ
          refine s_iinc C dX10_line_74 rfl (by decide) rfl (by decide) (by omega) (fun z22 tz22 => ?_)
          show WP E ad 77 [some (.ref (ad 71)), some (.int a), some (.int i), some (.int z21), some (.int z22), some (.int (τ.1 104 z15.toNatClampNeg))] [] τ
          refine s_goto (tgt := 21) C dX10_line_77 (by decide) ?_
          refine wp_le (lv' := [some (.ref (ad 71)), some (.int a), some (.int i), some (.int z21), some (.int z22), none]) ⟨rfl, ⟨rfl, ⟨rfl, ⟨rfl, ⟨rfl, trivial⟩⟩⟩⟩⟩ ?_
          exact ih z21 z22 (by omega) (by omega)
        · refine s_aload_n C dX10_line_52 rfl ?_
          refine s_getr (k := 6) (j := 77) C y71 fw_X10_31 rfl dX10_line_53 ?_
          refine s_iload C dX10_line_56 rfl ?_
          refine s_iload C dX10_line_58 rfl ?_
          refine s_callSI (st := [.ref (ad 77)]) C (c_X10_at l ad τ z ((τ.1 104 z15.toNatClampNeg)) (by omega) (by omega)) cv_X10_189 rfl rfl ⟨by decide, by decide⟩ (Nat.le_of_ble_eq_true rfl) dX10_line_60 ?_
          intro r23 τ24 h25
          obtain ⟨eh25, h25⟩ := h25; replace eh25 := eh25.symm; subst eh25
          refine s_iald (r := (τ.1 77 r23.toNatClampNeg)) C y77 (by omega) rfl dX10_line_63 ?_
          refine s_iconst C dX10_line_64 (by decide) (fun z26 tz26 => ?_)
          refine s_icmp_ne (tgt := 72) C dX10_line_65 (by decide) (fun q27 => ?_) (fun q27 => ?_)
          · refine s_iconst C dX10_line_72 (by decide) (fun z28 tz28 => ?_)
            refine s_istore_n C dX10_line_73 (by decide) (Nat.le_of_ble_eq_true rfl) rfl ?_
            show WP E ad 74 [some (.ref (ad 71)), some (.int a), some (.int i), some (.int z28), some (.int z), some (.int (τ.1 104 z15.toNatClampNeg))] [] τ
            refine s_iinc C dX10_line_74 rfl (by decide) rfl (by decide) (by omega) (fun z29 tz29 => ?_)
            show WP E ad 77 [some (.ref (ad 71)), some (.int a), some (.int i), some (.int z28), some (.int z29), some (.int (τ.1 104 z15.toNatClampNeg))] [] τ
            refine s_goto (tgt := 21) C dX10_line_77 (by decide) ?_
            refine wp_le (lv' := [some (.ref (ad 71)), some (.int a), some (.int i), some (.int z28), some (.int z29), none]) ⟨rfl, ⟨rfl, ⟨rfl, ⟨rfl, ⟨rfl, trivial⟩⟩⟩⟩⟩ ?_
            exact ih z28 z29 (by omega) (by omega)
          · refine s_iconst C dX10_line_68 (by decide) (fun z30 tz30 => ?_)
            refine s_goto (tgt := 73) C dX10_line_69 (by decide) ?_
            refine s_istore_n C dX10_line_73 (by decide) (Nat.le_of_ble_eq_true rfl) rfl ?_
            show WP E ad 74 [some (.ref (ad 71)), some (.int a), some (.int i), some (.int z30), some (.int z), some (.int (τ.1 104 z15.toNatClampNeg))] [] τ
            refine s_iinc C dX10_line_74 rfl (by decide) rfl (by decide) (by omega) (fun z31 tz31 => ?_)
            show WP E ad 77 [some (.ref (ad 71)), some (.int a), some (.int i), some (.int z30), some (.int z31), some (.int (τ.1 104 z15.toNatClampNeg))] [] τ
            refine s_goto (tgt := 21) C dX10_line_77 (by decide) ?_
            refine wp_le (lv' := [some (.ref (ad 71)), some (.int a), some (.int i), some (.int z30), some (.int z31), none]) ⟨rfl, ⟨rfl, ⟨rfl, ⟨rfl, ⟨rfl, trivial⟩⟩⟩⟩⟩ ?_
            exact ih z30 z31 (by omega) (by omega)
set_option maxRecDepth 100000 in
theorem L_line1 (l : Launch) (ad : Nat → Nat) (E : Ev) (σ τ : Sg) (kF : Fr [103, 104, 105, 106] [(71, 39), (71, 40)] σ τ) (kI : IM τ.1) (C : Cx E l (rmk 3) 6 cX10_line RX10) (X : Rx E ad (some .int) (oI (fun r τ => IM τ.1 ∧ Fr [103, 104, 105, 106] [(71, 39), (71, 40)] σ τ ∧ True)))  : ∀ (n : Nat) (a : Int32) (z : Int32), (0 ≤ z.toInt ∧ z.toInt ≤ 1296) → (0 ≤ a.toInt ∧ a.toInt ≤ 1295) → (1296 - z.toInt).toNat < n → WP E ad 8 [some (.ref (ad 71)), some (.int a), some (.int z), none, none, none] [] τ := by
  intro n
  induction n with
  | zero => intro a z h0 ha hm9; exact absurd hm9 (Nat.not_lt_zero _)
  | succ n ih =>
    intro a z h0 ha hm9
    have hcb := kI.cu.1
    refine s_iload_n C dX10_line_8 rfl ?_
    refine s_aload_n C dX10_line_9 rfl ?_
    refine s_get (k := 40) (x := (τ.1 71 40)) C y71 fw_X10_208 rfl rfl dX10_line_10 ?_
    refine s_icmp_ge (tgt := 109) C dX10_line_13 (by decide) (fun q1 => ?_) (fun q1 => ?_)
    · refine s_iload_n C dX10_line_109 rfl ?_
      exact s_iret C X dX10_line_110 ⟨kI, kF, trivial⟩
    · refine s_iconst C dX10_line_16 (by decide) (fun z2 tz2 => ?_)
      refine s_istore_n C dX10_line_17 (by decide) (Nat.le_of_ble_eq_true rfl) rfl ?_
      show WP E ad 18 [some (.ref (ad 71)), some (.int a), some (.int z), some (.int z2), none, none] [] τ
      refine s_iconst C dX10_line_18 (by decide) (fun z3 tz3 => ?_)
      refine s_istore C dX10_line_19 (by decide) (Nat.le_of_ble_eq_true rfl) rfl ?_
      show WP E ad 21 [some (.ref (ad 71)), some (.int a), some (.int z), some (.int z2), some (.int z3), none] [] τ
      exact L_line2 l ad E σ τ kF kI a z (by omega) (by omega) C X (fun b q hq hb => ih b q (by omega) (by rcases hb with hb | hb; (omega); (rw [hb]; omega)) (by omega)) 100 z2 z3 (by omega) (by omega)
set_option maxRecDepth 100000 in
theorem c_X10_line (l : Launch) (ad : Nat → Nat) (σ : Sg) (hI : IM σ.1) : Mt l yX10_line cX10_line 6 (some .int) 3 ad σ [.ref (ad 71)] (oI (fun r τ => IM τ.1 ∧ Fr [103, 104, 105, 106] [(71, 39), (71, 40)] σ τ ∧ True)) := by
  refine Mt_intro (by decide +kernel) (by simp [lg_sl, Value.category]) (fun E C X => ?_)
  show WP E ad 0 [some (.ref (ad 71)), none, none, none, none, none] [] σ
  refine s_aload_n C dX10_line_0 rfl ?_
  refine s_callVV (st := []) C (c_X10_layCuts l ad σ hI) cv_X10_219 y71 rfl rfl rfl ⟨by decide, by decide⟩ (Nat.le_of_ble_eq_true rfl) dX10_line_1 ?_
  intro τ2 h3
  have hIτ2 := h3.1
  have hLτ2 := h3.2.1
  refine s_iconst C dX10_line_4 (by decide) (fun z4 tz4 => ?_)
  refine s_istore_n C dX10_line_5 (by decide) (Nat.le_of_ble_eq_true rfl) rfl ?_
  show WP E ad 6 [some (.ref (ad 71)), some (.int z4), none, none, none, none] [] τ2
  refine s_iconst C dX10_line_6 (by decide) (fun z5 tz5 => ?_)
  refine s_istore_n C dX10_line_7 (by decide) (Nat.le_of_ble_eq_true rfl) rfl ?_
  show WP E ad 8 [some (.ref (ad 71)), some (.int z4), some (.int z5), none, none, none] [] τ2
  exact L_line1 l ad E σ τ2 (Fr.tr Fr.rf (Fr.mo h3.2.2.1 (by decide) (by decide))) hIτ2 C X 5000 z4 z5 (by omega) (by omega) (by omega)
set_option maxRecDepth 100000 in
theorem L_ways147 (l : Launch) (ad : Nat → Nat) (E : Ev) (σ : Sg) (i : Int32) (cu : Int) (j : Int32) (hj : 0 ≤ j.toInt) (C : Cx E l (rmk 4) 4 cX10_ways RX10) (X : Rx E ad (some .long) (oL (fun r τ => IM τ.1 ∧ Fr [103, 104, 105, 106, 107, 108] [(71, 39), (71, 40)] σ τ ∧ True))) (K : ∀ (υ : Sg) (q : Int32), Fr [103, 104, 105, 106, 107, 108] [(71, 39), (71, 40)] σ υ → IM υ.1 → ¬ (υ.1 71 39).toInt = 0 → (υ.1 71 40).toInt = cu → q.toInt = j.toInt - 1 → WP E ad 141 [some (.ref (ad 71)), some (.int i), some (.int q), none] [] υ) : ∀ (n : Nat) (τ : Sg) (z : Int32), (Fr [103, 104, 105, 106, 107, 108] [(71, 39), (71, 40)] σ τ) → (IM τ.1) → (¬ (τ.1 71 39).toInt = 0) → (i.toInt = -1 ∨ (0 ≤ i.toInt ∧ i.toInt < cu)) → ((τ.1 71 40).toInt = cu) → (j.toInt < cu) → (0 ≤ z.toInt) → (4 - z.toInt).toNat < n → WP E ad 147 [some (.ref (ad 71)), some (.int i), some (.int j), some (.int z)] [] τ := by
  intro n
  induction n with
  | zero => intro τ z kF kI hL hi hc hjc h0 hm9; exact absurd hm9 (Nat.not_lt_zero _)
  | succ n ih =>
    intro τ z kF kI hL hi hc hjc h0 hm9
    have hcb := kI.cu.1
    have hpr := kI.pr
    have hc1 := (kI.cu.2.2.2.2 hL).1
    refine s_iload_n C dX10_ways_147 rfl ?_
    refine s_aload_n C dX10_ways_148 rfl ?_
    refine s_get (k := 0) (x := (τ.1 71 0)) C y71 fw_X10_9 rfl rfl dX10_ways_149 ?_
    refine s_icmp_ge (tgt := 190) C dX10_ways_152 (by decide) (fun q1 => ?_) (fun q1 => ?_)
    · refine s_iinc C dX10_ways_190 rfl (by decide) rfl (by decide) (by omega) (fun z2 tz2 => ?_)
      show WP E ad 193 [some (.ref (ad 71)), some (.int i), some (.int z2), some (.int z)] [] τ
      refine s_goto (tgt := 141) C dX10_ways_193 (by decide) ?_
      refine wp_le (lv' := [some (.ref (ad 71)), some (.int i), some (.int z2), none]) ⟨rfl, ⟨rfl, ⟨rfl, trivial⟩⟩⟩ ?_
      exact K τ z2 kF kI hL hc (by omega)
    · refine s_aload_n C dX10_ways_155 rfl ?_
      refine s_iload_n C dX10_ways_156 rfl ?_
      refine s_iload_n C dX10_ways_157 rfl ?_
      refine s_callVI (st := []) C (c_X10_nextBy l ad τ j z kI hL (by omega) (by omega)) cv_X10_229 y71 rfl rfl rfl ⟨by decide, by decide⟩ (Nat.le_of_ble_eq_true rfl) dX10_ways_158 ?_
      intro r3 τ4 h5
      obtain ⟨eh5, h5⟩ := h5; replace eh5 := eh5.symm; subst eh5
      refine s_if_lt (tgt := 184) C dX10_ways_161 (by decide) (fun q6 => ?_) (fun q6 => ?_)
      · refine s_iinc C dX10_ways_184 rfl (by decide) rfl (by decide) (by omega) (fun z7 tz7 => ?_)
        show WP E ad 187 [some (.ref (ad 71)), some (.int i), some (.int j), some (.int z7)] [] τ
        refine s_goto (tgt := 147) C dX10_ways_187 (by decide) ?_
        exact ih τ z7 (Fr.tr Fr.rf (Fr.mo kF (by decide) (by decide))) kI hL hi hc hjc (by omega) (by omega)
      · refine s_aload_n C dX10_ways_164 rfl ?_
        refine s_getr (k := 46) (j := 108) C y71 fw_X10_125 rfl dX10_ways_165 ?_
        refine s_iload_n C dX10_ways_168 rfl ?_
        refine s_dup2 C dX10_ways_169 rfl rfl ?_
        refine s_lald (r := (τ.2 108 j.toNatClampNeg)) C y108 (by omega) rfl dX10_ways_170 ?_
        refine s_aload_n C dX10_ways_171 rfl ?_
        refine s_getr (k := 46) (j := 108) C y71 fw_X10_125 rfl dX10_ways_172 ?_
        refine s_aload_n C dX10_ways_175 rfl ?_
        refine s_iload_n C dX10_ways_176 rfl ?_
        refine s_iload_n C dX10_ways_177 rfl ?_
        refine s_callVI (st := [.ref (ad 108), .long (τ.2 108 j.toNatClampNeg), .int j, .ref (ad 108)]) C (c_X10_nextBy l ad τ j z kI hL (by omega) (by omega)) cv_X10_229 y71 rfl rfl rfl ⟨by decide, by decide⟩ (Nat.le_of_ble_eq_true rfl) dX10_ways_178 ?_
        intro r8 τ9 h10
        obtain ⟨eh10, h10⟩ := h10; replace eh10 := eh10.symm; subst eh10
        refine s_lald (r := (τ.2 108 r8.toNatClampNeg)) C y108 (by omega) rfl dX10_ways_181 ?_
        refine s_ladd C dX10_ways_182 (fun L11 => ?_)
        refine s_last C y108 (by omega) dX10_ways_183 ?_
        refine s_iinc C dX10_ways_184 rfl (by decide) rfl (by decide) (by omega) (fun z12 tz12 => ?_)
        show WP E ad 187 [some (.ref (ad 71)), some (.int i), some (.int j), some (.int z12)] [] (sL τ 108 j.toNatClampNeg L11)
        refine s_goto (tgt := 147) C dX10_ways_187 (by decide) ?_
        exact ih (sL τ 108 j.toNatClampNeg L11) z12 (Fr.sL (Fr.tr Fr.rf (Fr.mo kF (by decide) (by decide))) (by decide)) kI hL hi hc hjc (by omega) (by omega)
set_option maxRecDepth 100000 in
theorem L_ways141 (l : Launch) (ad : Nat → Nat) (E : Ev) (σ : Sg) (i : Int32) (cu : Int) (C : Cx E l (rmk 4) 4 cX10_ways RX10) (X : Rx E ad (some .long) (oL (fun r τ => IM τ.1 ∧ Fr [103, 104, 105, 106, 107, 108] [(71, 39), (71, 40)] σ τ ∧ True)))  : ∀ (n : Nat) (τ : Sg) (z : Int32), (Fr [103, 104, 105, 106, 107, 108] [(71, 39), (71, 40)] σ τ) → (IM τ.1) → (¬ (τ.1 71 39).toInt = 0) → (i.toInt = -1 ∨ (0 ≤ i.toInt ∧ i.toInt < cu)) → ((τ.1 71 40).toInt = cu) → (-1 ≤ z.toInt ∧ z.toInt < cu) → (z.toInt + 1).toNat < n → WP E ad 141 [some (.ref (ad 71)), some (.int i), some (.int z), none] [] τ := by
  intro n
  induction n with
  | zero => intro τ z kF kI hL hi hc h0 hm9; exact absurd hm9 (Nat.not_lt_zero _)
  | succ n ih =>
    intro τ z kF kI hL hi hc h0 hm9
    have hcb := kI.cu.1
    have hpr := kI.pr
    have hc1 := (kI.cu.2.2.2.2 hL).1
    refine s_iload_n C dX10_ways_141 rfl ?_
    refine s_if_lt (tgt := 196) C dX10_ways_142 (by decide) (fun q1 => ?_) (fun q1 => ?_)
    · refine s_iload_n C dX10_ways_196 rfl ?_
      refine s_iconst C dX10_ways_197 (by decide) (fun z2 tz2 => ?_)
      refine s_icmp_ne (tgt := 215) C dX10_ways_198 (by decide) (fun q3 => ?_) (fun q3 => ?_)
      · refine s_aload_n C dX10_ways_215 rfl ?_
        refine s_getr (k := 45) (j := 107) C y71 fw_X10_122 rfl dX10_ways_216 ?_
        refine s_iload_n C dX10_ways_219 rfl ?_
        refine s_lald (r := (τ.2 107 i.toNatClampNeg)) C y107 (by omega) rfl dX10_ways_220 ?_
        refine s_aload_n C dX10_ways_221 rfl ?_
        refine s_getr (k := 46) (j := 108) C y71 fw_X10_125 rfl dX10_ways_222 ?_
        refine s_iload_n C dX10_ways_225 rfl ?_
        refine s_lald (r := (τ.2 108 i.toNatClampNeg)) C y108 (by omega) rfl dX10_ways_226 ?_
        refine s_lmul C dX10_ways_227 (fun L4 => ?_)
        exact s_lret C X dX10_ways_228 ⟨kI, kF, trivial⟩
      · refine s_aload_n C dX10_ways_201 rfl ?_
        refine s_getr (k := 45) (j := 107) C y71 fw_X10_122 rfl dX10_ways_202 ?_
        refine s_aload_n C dX10_ways_205 rfl ?_
        refine s_get (k := 40) (x := (τ.1 71 40)) C y71 fw_X10_208 rfl rfl dX10_ways_206 ?_
        refine s_iconst C dX10_ways_209 (by decide) (fun z5 tz5 => ?_)
        refine s_isub C dX10_ways_210 (by omega) (fun z6 tz6 => ?_)
        refine s_lald (r := (τ.2 107 z6.toNatClampNeg)) C y107 (by omega) rfl dX10_ways_211 ?_
        refine s_goto (tgt := 228) C dX10_ways_212 (by decide) ?_
        exact s_lret C X dX10_ways_228 ⟨kI, kF, trivial⟩
    · refine s_iconst C dX10_ways_145 (by decide) (fun z7 tz7 => ?_)
      refine s_istore_n C dX10_ways_146 (by decide) (Nat.le_of_ble_eq_true rfl) rfl ?_
      show WP E ad 147 [some (.ref (ad 71)), some (.int i), some (.int z), some (.int z7)] [] τ
      exact L_ways147 l ad E σ i cu z (by omega) C X (fun υ q h1 h2 h3 h4 h5 => ih υ q h1 h2 h3 hi h4 (by omega) (by omega)) 100 τ z7 kF kI hL hi hc (by omega) (by omega) (by omega)
set_option maxRecDepth 100000 in
theorem L_ways85 (l : Launch) (ad : Nat → Nat) (E : Ev) (σ : Sg) (i : Int32) (cu : Int) (j : Int32) (hj : 0 ≤ j.toInt) (C : Cx E l (rmk 4) 4 cX10_ways RX10) (X : Rx E ad (some .long) (oL (fun r τ => IM τ.1 ∧ Fr [103, 104, 105, 106, 107, 108] [(71, 39), (71, 40)] σ τ ∧ True))) (K : ∀ (υ : Sg) (q : Int32), Fr [103, 104, 105, 106, 107, 108] [(71, 39), (71, 40)] σ υ → IM υ.1 → ¬ (υ.1 71 39).toInt = 0 → (υ.1 71 40).toInt = cu → q.toInt = j.toInt + 1 → WP E ad 75 [some (.ref (ad 71)), some (.int i), some (.int q), none] [] υ) : ∀ (n : Nat) (τ : Sg) (z : Int32), (Fr [103, 104, 105, 106, 107, 108] [(71, 39), (71, 40)] σ τ) → (IM τ.1) → (¬ (τ.1 71 39).toInt = 0) → (i.toInt = -1 ∨ (0 ≤ i.toInt ∧ i.toInt < cu)) → ((τ.1 71 40).toInt = cu) → (j.toInt < cu) → (0 ≤ z.toInt) → (4 - z.toInt).toNat < n → WP E ad 85 [some (.ref (ad 71)), some (.int i), some (.int j), some (.int z)] [] τ := by
  intro n
  induction n with
  | zero => intro τ z kF kI hL hi hc hjc h0 hm9; exact absurd hm9 (Nat.not_lt_zero _)
  | succ n ih =>
    intro τ z kF kI hL hi hc hjc h0 hm9
    have hcb := kI.cu.1
    have hpr := kI.pr
    have hc1 := (kI.cu.2.2.2.2 hL).1
    refine s_iload_n C dX10_ways_85 rfl ?_
    refine s_aload_n C dX10_ways_86 rfl ?_
    refine s_get (k := 0) (x := (τ.1 71 0)) C y71 fw_X10_9 rfl rfl dX10_ways_87 ?_
    refine s_icmp_ge (tgt := 128) C dX10_ways_90 (by decide) (fun q1 => ?_) (fun q1 => ?_)
    · refine s_iinc C dX10_ways_128 rfl (by decide) rfl (by decide) (by omega) (fun z2 tz2 => ?_)
      show WP E ad 131 [some (.ref (ad 71)), some (.int i), some (.int z2), some (.int z)] [] τ
      refine s_goto (tgt := 75) C dX10_ways_131 (by decide) ?_
      refine wp_le (lv' := [some (.ref (ad 71)), some (.int i), some (.int z2), none]) ⟨rfl, ⟨rfl, ⟨rfl, trivial⟩⟩⟩ ?_
      exact K τ z2 kF kI hL hc (by omega)
    · refine s_aload_n C dX10_ways_93 rfl ?_
      refine s_iload_n C dX10_ways_94 rfl ?_
      refine s_iload_n C dX10_ways_95 rfl ?_
      refine s_callVI (st := []) C (c_X10_nextBy l ad τ j z kI hL (by omega) (by omega)) cv_X10_229 y71 rfl rfl rfl ⟨by decide, by decide⟩ (Nat.le_of_ble_eq_true rfl) dX10_ways_96 ?_
      intro r3 τ4 h5
      obtain ⟨eh5, h5⟩ := h5; replace eh5 := eh5.symm; subst eh5
      refine s_if_lt (tgt := 122) C dX10_ways_99 (by decide) (fun q6 => ?_) (fun q6 => ?_)
      · refine s_iinc C dX10_ways_122 rfl (by decide) rfl (by decide) (by omega) (fun z7 tz7 => ?_)
        show WP E ad 125 [some (.ref (ad 71)), some (.int i), some (.int j), some (.int z7)] [] τ
        refine s_goto (tgt := 85) C dX10_ways_125 (by decide) ?_
        exact ih τ z7 (Fr.tr Fr.rf (Fr.mo kF (by decide) (by decide))) kI hL hi hc hjc (by omega) (by omega)
      · refine s_aload_n C dX10_ways_102 rfl ?_
        refine s_getr (k := 45) (j := 107) C y71 fw_X10_122 rfl dX10_ways_103 ?_
        refine s_aload_n C dX10_ways_106 rfl ?_
        refine s_iload_n C dX10_ways_107 rfl ?_
        refine s_iload_n C dX10_ways_108 rfl ?_
        refine s_callVI (st := [.ref (ad 107)]) C (c_X10_nextBy l ad τ j z kI hL (by omega) (by omega)) cv_X10_229 y71 rfl rfl rfl ⟨by decide, by decide⟩ (Nat.le_of_ble_eq_true rfl) dX10_ways_109 ?_
        intro r8 τ9 h10
        obtain ⟨eh10, h10⟩ := h10; replace eh10 := eh10.symm; subst eh10
        refine s_dup2 C dX10_ways_112 rfl rfl ?_
        refine s_lald (r := (τ.2 107 r8.toNatClampNeg)) C y107 (by omega) rfl dX10_ways_113 ?_
        refine s_aload_n C dX10_ways_114 rfl ?_
        refine s_getr (k := 45) (j := 107) C y71 fw_X10_122 rfl dX10_ways_115 ?_
        refine s_iload_n C dX10_ways_118 rfl ?_
        refine s_lald (r := (τ.2 107 j.toNatClampNeg)) C y107 (by omega) rfl dX10_ways_119 ?_
        refine s_ladd C dX10_ways_120 (fun L11 => ?_)
        refine s_last C y107 (by omega) dX10_ways_121 ?_
        refine s_iinc C dX10_ways_122 rfl (by decide) rfl (by decide) (by omega) (fun z12 tz12 => ?_)
        show WP E ad 125 [some (.ref (ad 71)), some (.int i), some (.int j), some (.int z12)] [] (sL τ 107 r8.toNatClampNeg L11)
        refine s_goto (tgt := 85) C dX10_ways_125 (by decide) ?_
        exact ih (sL τ 107 r8.toNatClampNeg L11) z12 (Fr.sL (Fr.tr Fr.rf (Fr.mo kF (by decide) (by decide))) (by decide)) kI hL hi hc hjc (by omega) (by omega)
set_option maxRecDepth 100000 in
theorem L_ways75 (l : Launch) (ad : Nat → Nat) (E : Ev) (σ : Sg) (i : Int32) (cu : Int) (C : Cx E l (rmk 4) 4 cX10_ways RX10) (X : Rx E ad (some .long) (oL (fun r τ => IM τ.1 ∧ Fr [103, 104, 105, 106, 107, 108] [(71, 39), (71, 40)] σ τ ∧ True)))  : ∀ (n : Nat) (τ : Sg) (z : Int32), (Fr [103, 104, 105, 106, 107, 108] [(71, 39), (71, 40)] σ τ) → (IM τ.1) → (¬ (τ.1 71 39).toInt = 0) → (i.toInt = -1 ∨ (0 ≤ i.toInt ∧ i.toInt < cu)) → ((τ.1 71 40).toInt = cu) → (0 ≤ z.toInt) → (1296 - z.toInt).toNat < n → WP E ad 75 [some (.ref (ad 71)), some (.int i), some (.int z), none] [] τ := by
  intro n
  induction n with
  | zero => intro τ z kF kI hL hi hc h0 hm9; exact absurd hm9 (Nat.not_lt_zero _)
  | succ n ih =>
    intro τ z kF kI hL hi hc h0 hm9
    have hcb := kI.cu.1
    have hpr := kI.pr
    have hc1 := (kI.cu.2.2.2.2 hL).1
    refine s_iload_n C dX10_ways_75 rfl ?_
    refine s_aload_n C dX10_ways_76 rfl ?_
    refine s_get (k := 40) (x := (τ.1 71 40)) C y71 fw_X10_208 rfl rfl dX10_ways_77 ?_
    refine s_icmp_ge (tgt := 134) C dX10_ways_80 (by decide) (fun q1 => ?_) (fun q1 => ?_)
    · refine s_aload_n C dX10_ways_134 rfl ?_
      refine s_get (k := 40) (x := (τ.1 71 40)) C y71 fw_X10_208 rfl rfl dX10_ways_135 ?_
      refine s_iconst C dX10_ways_138 (by decide) (fun z2 tz2 => ?_)
      refine s_isub C dX10_ways_139 (by omega) (fun z3 tz3 => ?_)
      refine s_istore_n C dX10_ways_140 (by decide) (Nat.le_of_ble_eq_true rfl) rfl ?_
      show WP E ad 141 [some (.ref (ad 71)), some (.int i), some (.int z3), none] [] τ
      exact L_ways141 l ad E σ i cu C X 5000 τ z3 kF kI hL hi hc (by omega) (by omega)
    · refine s_iconst C dX10_ways_83 (by decide) (fun z4 tz4 => ?_)
      refine s_istore_n C dX10_ways_84 (by decide) (Nat.le_of_ble_eq_true rfl) rfl ?_
      show WP E ad 85 [some (.ref (ad 71)), some (.int i), some (.int z), some (.int z4)] [] τ
      exact L_ways85 l ad E σ i cu z (by omega) C X (fun υ q h1 h2 h3 h4 h5 => ih υ q h1 h2 h3 hi h4 (by omega) (by omega)) 100 τ z4 kF kI hL hi hc (by omega) (by omega) (by omega)
set_option maxRecDepth 100000 in
theorem L_ways23 (l : Launch) (ad : Nat → Nat) (E : Ev) (σ : Sg) (i : Int32) (cu : Int) (C : Cx E l (rmk 4) 4 cX10_ways RX10) (X : Rx E ad (some .long) (oL (fun r τ => IM τ.1 ∧ Fr [103, 104, 105, 106, 107, 108] [(71, 39), (71, 40)] σ τ ∧ True)))  : ∀ (n : Nat) (τ : Sg) (z : Int32), (Fr [103, 104, 105, 106, 107, 108] [(71, 39), (71, 40)] σ τ) → (IM τ.1) → (¬ (τ.1 71 39).toInt = 0) → (i.toInt = -1 ∨ (0 ≤ i.toInt ∧ i.toInt < cu)) → ((τ.1 71 40).toInt = cu) → (0 ≤ z.toInt) → (1296 - z.toInt).toNat < n → WP E ad 23 [some (.ref (ad 71)), some (.int i), some (.int z), none] [] τ := by
  intro n
  induction n with
  | zero => intro τ z kF kI hL hi hc h0 hm9; exact absurd hm9 (Nat.not_lt_zero _)
  | succ n ih =>
    intro τ z kF kI hL hi hc h0 hm9
    have hcb := kI.cu.1
    have hpr := kI.pr
    have hc1 := (kI.cu.2.2.2.2 hL).1
    refine s_iload_n C dX10_ways_23 rfl ?_
    refine s_aload_n C dX10_ways_24 rfl ?_
    refine s_get (k := 40) (x := (τ.1 71 40)) C y71 fw_X10_208 rfl rfl dX10_ways_25 ?_
    refine s_icmp_ge (tgt := 73) C dX10_ways_28 (by decide) (fun q1 => ?_) (fun q1 => ?_)
    · refine s_iconst C dX10_ways_73 (by decide) (fun z2 tz2 => ?_)
      refine s_istore_n C dX10_ways_74 (by decide) (Nat.le_of_ble_eq_true rfl) rfl ?_
      show WP E ad 75 [some (.ref (ad 71)), some (.int i), some (.int z2), none] [] τ
      exact L_ways75 l ad E σ i cu C X 5000 τ z2 kF kI hL hi hc (by omega) (by omega)
    · refine s_aload_n C dX10_ways_31 rfl ?_
      refine s_getr (k := 45) (j := 107) C y71 fw_X10_122 rfl dX10_ways_32 ?_
      refine s_iload_n C dX10_ways_35 rfl ?_
      refine s_iload_n C dX10_ways_36 rfl ?_
      refine s_if_ne (tgt := 44) C dX10_ways_37 (by decide) (fun q3 => ?_) (fun q3 => ?_)
      · refine s_lconst C dX10_ways_44 rfl (fun L4 tL4 => ?_)
        have tL4 : L4.toInt = 0 := tL4
        refine s_last C y107 (by omega) dX10_ways_45 ?_
        refine s_aload_n C dX10_ways_46 rfl ?_
        refine s_getr (k := 46) (j := 108) C y71 fw_X10_125 rfl dX10_ways_47 ?_
        refine s_iload_n C dX10_ways_50 rfl ?_
        refine s_iload_n C dX10_ways_51 rfl ?_
        refine s_aload_n C dX10_ways_52 rfl ?_
        refine s_get (k := 40) (x := (τ.1 71 40)) C y71 fw_X10_208 rfl rfl dX10_ways_53 ?_
        refine s_iconst C dX10_ways_56 (by decide) (fun z5 tz5 => ?_)
        refine s_isub C dX10_ways_57 (by omega) (fun z6 tz6 => ?_)
        refine s_icmp_ne (tgt := 65) C dX10_ways_58 (by decide) (fun q7 => ?_) (fun q7 => ?_)
        · refine s_lconst C dX10_ways_65 rfl (fun L8 tL8 => ?_)
          have tL8 : L8.toInt = 0 := tL8
          refine s_last C y108 (by omega) dX10_ways_66 ?_
          refine s_iinc C dX10_ways_67 rfl (by decide) rfl (by decide) (by omega) (fun z9 tz9 => ?_)
          show WP E ad 70 [some (.ref (ad 71)), some (.int i), some (.int z9), none] [] (sL (sL τ 107 z.toNatClampNeg L4) 108 z.toNatClampNeg L8)
          refine s_goto (tgt := 23) C dX10_ways_70 (by decide) ?_
          exact ih (sL (sL τ 107 z.toNatClampNeg L4) 108 z.toNatClampNeg L8) z9 (Fr.sL (Fr.sL (Fr.tr Fr.rf (Fr.mo kF (by decide) (by decide))) (by decide)) (by decide)) kI hL hi hc (by omega) (by omega)
        · refine s_lconst C dX10_ways_61 rfl (fun L10 tL10 => ?_)
          have tL10 : L10.toInt = 1 := tL10
          refine s_goto (tgt := 66) C dX10_ways_62 (by decide) ?_
          refine s_last C y108 (by omega) dX10_ways_66 ?_
          refine s_iinc C dX10_ways_67 rfl (by decide) rfl (by decide) (by omega) (fun z11 tz11 => ?_)
          show WP E ad 70 [some (.ref (ad 71)), some (.int i), some (.int z11), none] [] (sL (sL τ 107 z.toNatClampNeg L4) 108 z.toNatClampNeg L10)
          refine s_goto (tgt := 23) C dX10_ways_70 (by decide) ?_
          exact ih (sL (sL τ 107 z.toNatClampNeg L4) 108 z.toNatClampNeg L10) z11 (Fr.sL (Fr.sL (Fr.tr Fr.rf (Fr.mo kF (by decide) (by decide))) (by decide)) (by decide)) kI hL hi hc (by omega) (by omega)
      · refine s_lconst C dX10_ways_40 rfl (fun L12 tL12 => ?_)
        have tL12 : L12.toInt = 1 := tL12
        refine s_goto (tgt := 45) C dX10_ways_41 (by decide) ?_
        refine s_last C y107 (by omega) dX10_ways_45 ?_
        refine s_aload_n C dX10_ways_46 rfl ?_
        refine s_getr (k := 46) (j := 108) C y71 fw_X10_125 rfl dX10_ways_47 ?_
        refine s_iload_n C dX10_ways_50 rfl ?_
        refine s_iload_n C dX10_ways_51 rfl ?_
        refine s_aload_n C dX10_ways_52 rfl ?_
        refine s_get (k := 40) (x := (τ.1 71 40)) C y71 fw_X10_208 rfl rfl dX10_ways_53 ?_
        refine s_iconst C dX10_ways_56 (by decide) (fun z13 tz13 => ?_)
        refine s_isub C dX10_ways_57 (by omega) (fun z14 tz14 => ?_)
        refine s_icmp_ne (tgt := 65) C dX10_ways_58 (by decide) (fun q15 => ?_) (fun q15 => ?_)
        · refine s_lconst C dX10_ways_65 rfl (fun L16 tL16 => ?_)
          have tL16 : L16.toInt = 0 := tL16
          refine s_last C y108 (by omega) dX10_ways_66 ?_
          refine s_iinc C dX10_ways_67 rfl (by decide) rfl (by decide) (by omega) (fun z17 tz17 => ?_)
          show WP E ad 70 [some (.ref (ad 71)), some (.int i), some (.int z17), none] [] (sL (sL τ 107 z.toNatClampNeg L12) 108 z.toNatClampNeg L16)
          refine s_goto (tgt := 23) C dX10_ways_70 (by decide) ?_
          exact ih (sL (sL τ 107 z.toNatClampNeg L12) 108 z.toNatClampNeg L16) z17 (Fr.sL (Fr.sL (Fr.tr Fr.rf (Fr.mo kF (by decide) (by decide))) (by decide)) (by decide)) kI hL hi hc (by omega) (by omega)
        · refine s_lconst C dX10_ways_61 rfl (fun L18 tL18 => ?_)
          have tL18 : L18.toInt = 1 := tL18
          refine s_goto (tgt := 66) C dX10_ways_62 (by decide) ?_
          refine s_last C y108 (by omega) dX10_ways_66 ?_
          refine s_iinc C dX10_ways_67 rfl (by decide) rfl (by decide) (by omega) (fun z19 tz19 => ?_)
          show WP E ad 70 [some (.ref (ad 71)), some (.int i), some (.int z19), none] [] (sL (sL τ 107 z.toNatClampNeg L12) 108 z.toNatClampNeg L18)
          refine s_goto (tgt := 23) C dX10_ways_70 (by decide) ?_
          exact ih (sL (sL τ 107 z.toNatClampNeg L12) 108 z.toNatClampNeg L18) z19 (Fr.sL (Fr.sL (Fr.tr Fr.rf (Fr.mo kF (by decide) (by decide))) (by decide)) (by decide)) kI hL hi hc (by omega) (by omega)
set_option maxRecDepth 100000 in
theorem c_X10_ways (l : Launch) (ad : Nat → Nat) (σ : Sg) (i : Int32) (hI : IM σ.1) : Mt l yX10_ways cX10_ways 4 (some .long) 4 ad σ [.ref (ad 71), .int i] (oL (fun r τ => IM τ.1 ∧ Fr [103, 104, 105, 106, 107, 108] [(71, 39), (71, 40)] σ τ ∧ True)) := by
  refine Mt_intro (by decide +kernel) (by simp [lg_sl, Value.category]) (fun E C X => ?_)
  show WP E ad 0 [some (.ref (ad 71)), some (.int i), none, none] [] σ
  refine s_iload_n C dX10_ways_0 rfl ?_
  refine s_iconst C dX10_ways_1 (by decide) (fun z1 tz1 => ?_)
  refine s_icmp_eq (tgt := 17) C dX10_ways_2 (by decide) (fun q2 => ?_) (fun q2 => ?_)
  · refine s_aload_n C dX10_ways_17 rfl ?_
    refine s_callVV (st := []) C (c_X10_layCuts l ad σ hI) cv_X10_219 y71 rfl rfl rfl ⟨by decide, by decide⟩ (Nat.le_of_ble_eq_true rfl) dX10_ways_18 ?_
    intro τ4 h5
    have hIτ4 := h5.1
    have hLτ4 := h5.2.1
    refine s_iconst C dX10_ways_21 (by decide) (fun z6 tz6 => ?_)
    refine s_istore_n C dX10_ways_22 (by decide) (Nat.le_of_ble_eq_true rfl) rfl ?_
    show WP E ad 23 [some (.ref (ad 71)), some (.int i), some (.int z6), none] [] τ4
    exact L_ways23 l ad E σ i (τ4.1 71 40).toInt C X 5000 τ4 z6 (Fr.tr Fr.rf (Fr.mo h5.2.2.1 (by decide) (by decide))) hIτ4 hLτ4 (by omega) rfl (by omega) (by omega)
  · refine s_aload_n C dX10_ways_5 rfl ?_
    refine s_iload_n C dX10_ways_6 rfl ?_
    refine s_callVI (st := []) C (c_X10_isCut l ad σ i hI) cv_X10_222 y71 rfl rfl rfl ⟨by decide, by decide⟩ (Nat.le_of_ble_eq_true rfl) dX10_ways_7 ?_
    intro r7 τ8 h9
    have hIτ8 := h9.1
    have hRτ8 := h9.2.2
    have hLτ8 := h9.2.2.2.1
    have hBτ8 := hIτ8.cu.1
    refine s_if_ne (tgt := 17) C dX10_ways_10 (by decide) (fun q10 => ?_) (fun q10 => ?_)
    · refine s_aload_n C dX10_ways_17 rfl ?_
      refine s_callVV (st := []) C (c_X10_layCuts l ad τ8 hIτ8) cv_X10_219 y71 rfl rfl rfl ⟨by decide, by decide⟩ (Nat.le_of_ble_eq_true rfl) dX10_ways_18 ?_
      intro τ12 h13
      have hIτ12 := h13.1
      have hLτ12 := h13.2.1
      have hSτ12 : Int32.toInt (τ12.1 71 40) = Int32.toInt (τ8.1 71 40) := congrArg Int32.toInt (h13.2.2.2 hLτ8)
      refine s_iconst C dX10_ways_21 (by decide) (fun z14 tz14 => ?_)
      refine s_istore_n C dX10_ways_22 (by decide) (Nat.le_of_ble_eq_true rfl) rfl ?_
      show WP E ad 23 [some (.ref (ad 71)), some (.int i), some (.int z14), none] [] τ12
      exact L_ways23 l ad E σ i (τ12.1 71 40).toInt C X 5000 τ12 z14 (Fr.tr (Fr.tr Fr.rf (Fr.mo h9.2.1 (by decide) (by decide))) (Fr.mo h13.2.2.1 (by decide) (by decide))) hIτ12 hLτ12 (by omega) rfl (by omega) (by omega)
    · obtain ⟨L15, eL15⟩ : ∃ q : Int64, q = -9223372036854775808 := ⟨_, rfl⟩
      have tL15 : L15.toInt = -9223372036854775808 := by rw [eL15]; rfl
      refine s_ldc2 (v := L15) C dX10_ways_13 (by rw [eL15]; exact mw 1320 (by decide +kernel) rfl) ?_
      exact s_lret C X dX10_ways_16 ⟨hIτ8, (Fr.tr Fr.rf (Fr.mo h9.2.1 (by decide) (by decide))), trivial⟩
