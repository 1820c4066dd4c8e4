set_option maxRecDepth 100000 in
theorem L_isSliced59 (l : Launch) (ad : Nat → Nat) (E : Ev) (σ : Sg) (hI : IM σ.1) (i : Int32) (hi : 0 ≤ i.toInt ∧ i.toInt ≤ 1295) (p k : Int32) (hp : 0 ≤ p.toInt ∧ p.toInt ≤ 3) (hk : 0 ≤ k.toInt ∧ k.toInt ≤ 5) (C : Cx E l (rmk 1) 6 cX10_isSliced RX10) (X : Rx E ad (some .boolean) (oI (fun r τ => τ = σ ∧ (r.toInt = 0 ∨ r.toInt = 1)))) (K : ∀ y q : Int32, (y.toInt = 0 ∨ y.toInt = 1) → q.toInt = p.toInt + 1 → WP E ad 15 [some (.ref (ad 71)), some (.int i), some (.int y), some (.int q), none, none] [] σ) : ∀ (n : Nat) (y : Int32) (z : Int32), (y.toInt = 0 ∨ y.toInt = 1) → (0 ≤ z.toInt) → (4 - z.toInt).toNat < n → WP E ad 59 [some (.ref (ad 71)), some (.int i), some (.int y), some (.int p), some (.int k), some (.int z)] [] σ := by
  intro n
  induction n with
  | zero => intro y z hy h0 hm9; exact absurd hm9 (Nat.not_lt_zero _)
  | succ n ih =>
    intro y z hy h0 hm9
    refine s_iload C dX10_isSliced_59 rfl ?_
    refine s_iconst C dX10_isSliced_61 (by decide) (fun z1 tz1 => ?_)
    refine s_icmp_ge (tgt := 116) C dX10_isSliced_62 (by decide) (fun q2 => ?_) (fun q2 => ?_)
    · refine s_iinc C dX10_isSliced_116 rfl (by decide) rfl (by decide) (by omega) (fun z3 tz3 => ?_)
      show WP E ad 119 [some (.ref (ad 71)), some (.int i), some (.int y), some (.int z3), some (.int k), some (.int z)] [] σ
      refine s_goto (tgt := 15) C dX10_isSliced_119 (by decide) ?_
      refine wp_le (lv' := [some (.ref (ad 71)), some (.int i), some (.int y), some (.int z3), none, none]) ⟨rfl, ⟨rfl, ⟨rfl, ⟨rfl, trivial⟩⟩⟩⟩ ?_
      exact K y z3 (by omega) (by omega)
    · refine s_iload_n C dX10_isSliced_65 rfl ?_
      refine s_if_eq (tgt := 116) C dX10_isSliced_66 (by decide) (fun q4 => ?_) (fun q4 => ?_)
      · refine s_iinc C dX10_isSliced_116 rfl (by decide) rfl (by decide) (by omega) (fun z5 tz5 => ?_)
        show WP E ad 119 [some (.ref (ad 71)), some (.int i), some (.int y), some (.int z5), some (.int k), some (.int z)] [] σ
        refine s_goto (tgt := 15) C dX10_isSliced_119 (by decide) ?_
        refine wp_le (lv' := [some (.ref (ad 71)), some (.int i), some (.int y), some (.int z5), none, none]) ⟨rfl, ⟨rfl, ⟨rfl, ⟨rfl, trivial⟩⟩⟩⟩ ?_
        exact K y z5 (by omega) (by omega)
      · refine s_iload C dX10_isSliced_69 rfl ?_
        refine s_if_le (tgt := 116) C dX10_isSliced_71 (by decide) (fun q6 => ?_) (fun q6 => ?_)
        · refine s_iinc C dX10_isSliced_116 rfl (by decide) rfl (by decide) (by omega) (fun z7 tz7 => ?_)
          show WP E ad 119 [some (.ref (ad 71)), some (.int i), some (.int y), some (.int z7), some (.int k), some (.int z)] [] σ
          refine s_goto (tgt := 15) C dX10_isSliced_119 (by decide) ?_
          refine wp_le (lv' := [some (.ref (ad 71)), some (.int i), some (.int y), some (.int z7), none, none]) ⟨rfl, ⟨rfl, ⟨rfl, ⟨rfl, trivial⟩⟩⟩⟩ ?_
          exact K y z7 (by omega) (by omega)
        · refine s_aload_n C dX10_isSliced_74 rfl ?_
          refine s_getr (k := 57) (j := 115) C y71 fw_X10_147 rfl dX10_isSliced_75 ?_
          refine s_iconst C dX10_isSliced_78 (by decide) (fun z8 tz8 => ?_)
          refine s_iload_n C dX10_isSliced_79 rfl ?_
          refine s_iload C dX10_isSliced_80 rfl ?_
          refine s_callSI (st := [.int z8, .ref (ad 115)]) C (c_X10_at l ad σ p k (by omega) (by omega)) cv_X10_189 rfl rfl ⟨by decide, by decide⟩ (Nat.le_of_ble_eq_true rfl) dX10_isSliced_82 ?_
          intro r9 τ10 h11
          obtain ⟨eh11, h11⟩ := h11; replace eh11 := eh11.symm; subst eh11
          refine s_imulL C tz8 dX10_isSliced_85 (by omega) (fun z12 tz12 => ?_)
          refine s_iload C dX10_isSliced_86 rfl ?_
          refine s_iadd C dX10_isSliced_88 (by omega) (fun z13 tz13 => ?_)
          refine s_iald (r := (σ.1 115 z13.toNatClampNeg)) C y115 (by omega) rfl dX10_isSliced_89 ?_
          refine s_aload_n C dX10_isSliced_90 rfl ?_
          refine s_getr (k := 42) (j := 104) C y71 fw_X10_113 rfl dX10_isSliced_91 ?_
          refine s_iconst C dX10_isSliced_94 (by decide) (fun z14 tz14 => ?_)
          refine s_iload_n C dX10_isSliced_95 rfl ?_
          refine s_imulL C tz14 dX10_isSliced_96 (by omega) (fun z15 tz15 => ?_)
          refine s_iload C dX10_isSliced_97 rfl ?_
          refine s_iadd C dX10_isSliced_99 (by omega) (fun z16 tz16 => ?_)
          refine s_iald (r := (σ.1 104 z16.toNatClampNeg)) C y104 (by omega) rfl dX10_isSliced_100 ?_
          have b17 := hI.cu.2.1 z16.toNatClampNeg
          refine s_icmp_gt (tgt := 108) C dX10_isSliced_101 (by decide) (fun q18 => ?_) (fun q18 => ?_)
          · refine s_iconst C dX10_isSliced_108 (by decide) (fun z19 tz19 => ?_)
            refine s_istore_n C dX10_isSliced_109 (by decide) (Nat.le_of_ble_eq_true rfl) rfl ?_
            show WP E ad 110 [some (.ref (ad 71)), some (.int i), some (.int z19), some (.int p), some (.int k), some (.int z)] [] σ
            refine s_iinc C dX10_isSliced_110 rfl (by decide) rfl (by decide) (by omega) (fun z20 tz20 => ?_)
            show WP E ad 113 [some (.ref (ad 71)), some (.int i), some (.int z19), some (.int p), some (.int k), some (.int z20)] [] σ
            refine s_goto (tgt := 59) C dX10_isSliced_113 (by decide) ?_
            exact ih z19 z20 (by omega) (by omega) (by omega)
          · refine s_iconst C dX10_isSliced_104 (by decide) (fun z21 tz21 => ?_)
            refine s_goto (tgt := 109) C dX10_isSliced_105 (by decide) ?_
            refine s_istore_n C dX10_isSliced_109 (by decide) (Nat.le_of_ble_eq_true rfl) rfl ?_
            show WP E ad 110 [some (.ref (ad 71)), some (.int i), some (.int z21), some (.int p), some (.int k), some (.int z)] [] σ
            refine s_iinc C dX10_isSliced_110 rfl (by decide) rfl (by decide) (by omega) (fun z22 tz22 => ?_)
            show WP E ad 113 [some (.ref (ad 71)), some (.int i), some (.int z21), some (.int p), some (.int k), some (.int z22)] [] σ
            refine s_goto (tgt := 59) C dX10_isSliced_113 (by decide) ?_
            exact ih z21 z22 (by omega) (by omega) (by omega)
set_option maxRecDepth 100000 in
theorem L_isSliced15 (l : Launch) (ad : Nat → Nat) (E : Ev) (σ : Sg) (hI : IM σ.1) (i : Int32) (hi : 0 ≤ i.toInt ∧ i.toInt ≤ 1295) (C : Cx E l (rmk 1) 6 cX10_isSliced RX10) (X : Rx E ad (some .boolean) (oI (fun r τ => τ = σ ∧ (r.toInt = 0 ∨ r.toInt = 1))))  : ∀ (n : Nat) (y : Int32) (z : Int32), (y.toInt = 0 ∨ y.toInt = 1) → (0 ≤ z.toInt) → (4 - z.toInt).toNat < n → WP E ad 15 [some (.ref (ad 71)), some (.int i), some (.int y), some (.int z), none, none] [] σ := by
  intro n
  induction n with
  | zero => intro y z hy h0 hm9; exact absurd hm9 (Nat.not_lt_zero _)
  | succ n ih =>
    intro y z hy h0 hm9
    have hpr := hI.pr
    refine s_iload_n C dX10_isSliced_15 rfl ?_
    refine s_aload_n C dX10_isSliced_16 rfl ?_
    refine s_get (k := 0) (x := (σ.1 71 0)) C y71 fw_X10_9 rfl rfl dX10_isSliced_17 ?_
    refine s_icmp_ge (tgt := 122) C dX10_isSliced_20 (by decide) (fun q1 => ?_) (fun q1 => ?_)
    · refine s_iload_n C dX10_isSliced_122 rfl ?_
      exact s_zret C (by omega) X dX10_isSliced_123 ⟨rfl, by omega⟩
    · refine s_iload_n C dX10_isSliced_23 rfl ?_
      refine s_if_eq (tgt := 122) C dX10_isSliced_24 (by decide) (fun q2 => ?_) (fun q2 => ?_)
      · refine s_iload_n C dX10_isSliced_122 rfl ?_
        exact s_zret C (by omega) X dX10_isSliced_123 ⟨rfl, by omega⟩
      · refine s_aload_n C dX10_isSliced_27 rfl ?_
        refine s_getr (k := 42) (j := 104) C y71 fw_X10_113 rfl dX10_isSliced_28 ?_
        refine s_iconst C dX10_isSliced_31 (by decide) (fun z3 tz3 => ?_)
        refine s_iload_n C dX10_isSliced_32 rfl ?_
        refine s_imulL C tz3 dX10_isSliced_33 (by omega) (fun z4 tz4 => ?_)
        refine s_iload_n C dX10_isSliced_34 rfl ?_
        refine s_iadd C dX10_isSliced_35 (by omega) (fun z5 tz5 => ?_)
        refine s_iald (r := (σ.1 104 z5.toNatClampNeg)) C y104 (by omega) rfl dX10_isSliced_36 ?_
        have b6 := hI.cu.2.1 z5.toNatClampNeg
        refine s_istore C dX10_isSliced_37 (by decide) (Nat.le_of_ble_eq_true rfl) rfl ?_
        show WP E ad 39 [some (.ref (ad 71)), some (.int i), some (.int y), some (.int z), some (.int (σ.1 104 z5.toNatClampNeg)), none] [] σ
        refine s_iload C dX10_isSliced_39 rfl ?_
        refine s_aload_n C dX10_isSliced_41 rfl ?_
        refine s_getr (k := 58) (j := 116) C y71 fw_X10_150 rfl dX10_isSliced_42 ?_
        refine s_iload_n C dX10_isSliced_45 rfl ?_
        refine s_iald (r := (σ.1 116 z.toNatClampNeg)) C y116 (by omega) rfl dX10_isSliced_46 ?_
        refine s_icmp_lt (tgt := 54) C dX10_isSliced_47 (by decide) (fun q7 => ?_) (fun q7 => ?_)
        · refine s_iconst C dX10_isSliced_54 (by decide) (fun z8 tz8 => ?_)
          refine s_istore_n C dX10_isSliced_55 (by decide) (Nat.le_of_ble_eq_true rfl) rfl ?_
          show WP E ad 56 [some (.ref (ad 71)), some (.int i), some (.int z8), some (.int z), some (.int (σ.1 104 z5.toNatClampNeg)), none] [] σ
          refine s_iconst C dX10_isSliced_56 (by decide) (fun z9 tz9 => ?_)
          refine s_istore C dX10_isSliced_57 (by decide) (Nat.le_of_ble_eq_true rfl) rfl ?_
          show WP E ad 59 [some (.ref (ad 71)), some (.int i), some (.int z8), some (.int z), some (.int (σ.1 104 z5.toNatClampNeg)), some (.int z9)] [] σ
          exact L_isSliced59 l ad E σ hI i hi z (σ.1 104 z5.toNatClampNeg) (by omega) (by omega) C X (fun y q h1 h2 => ih y q h1 (by omega) (by omega)) 100 z8 z9 (by omega) (by omega) (by omega)
        · refine s_iconst C dX10_isSliced_50 (by decide) (fun z10 tz10 => ?_)
          refine s_goto (tgt := 55) C dX10_isSliced_51 (by decide) ?_
          refine s_istore_n C dX10_isSliced_55 (by decide) (Nat.le_of_ble_eq_true rfl) rfl ?_
          show WP E ad 56 [some (.ref (ad 71)), some (.int i), some (.int z10), some (.int z), some (.int (σ.1 104 z5.toNatClampNeg)), none] [] σ
          refine s_iconst C dX10_isSliced_56 (by decide) (fun z11 tz11 => ?_)
          refine s_istore C dX10_isSliced_57 (by decide) (Nat.le_of_ble_eq_true rfl) rfl ?_
          show WP E ad 59 [some (.ref (ad 71)), some (.int i), some (.int z10), some (.int z), some (.int (σ.1 104 z5.toNatClampNeg)), some (.int z11)] [] σ
          exact L_isSliced59 l ad E σ hI i hi z (σ.1 104 z5.toNatClampNeg) (by omega) (by omega) C X (fun y q h1 h2 => ih y q h1 (by omega) (by omega)) 100 z10 z11 (by omega) (by omega) (by omega)
set_option maxRecDepth 100000 in
theorem c_X10_isSliced (l : Launch) (ad : Nat → Nat) (σ : Sg) (i : Int32) (hI : IM σ.1) (hi : 0 ≤ i.toInt ∧ i.toInt ≤ 1295) : Mt l yX10_isSliced cX10_isSliced 6 (some .boolean) 1 ad σ [.ref (ad 71), .int i] (oI (fun r τ => τ = σ ∧ (r.toInt = 0 ∨ r.toInt = 1))) := by
  refine Mt_intro (by decide +kernel) (by simp [lg_sl, Value.category]) (fun E C X => ?_)
  show WP E ad 0 [some (.ref (ad 71)), some (.int i), none, none, none, none] [] σ
  refine s_aload_n C dX10_isSliced_0 rfl ?_
  refine s_get (k := 55) (x := (σ.1 71 55)) C y71 fw_X10_295 rfl rfl dX10_isSliced_1 ?_
  refine s_if_le (tgt := 11) C dX10_isSliced_4 (by decide) (fun q1 => ?_) (fun q1 => ?_)
  · refine s_iconst C dX10_isSliced_11 (by decide) (fun z2 tz2 => ?_)
    refine s_istore_n C dX10_isSliced_12 (by decide) (Nat.le_of_ble_eq_true rfl) rfl ?_
    show WP E ad 13 [some (.ref (ad 71)), some (.int i), some (.int z2), none, none, none] [] σ
    refine s_iconst C dX10_isSliced_13 (by decide) (fun z3 tz3 => ?_)
    refine s_istore_n C dX10_isSliced_14 (by decide) (Nat.le_of_ble_eq_true rfl) rfl ?_
    show WP E ad 15 [some (.ref (ad 71)), some (.int i), some (.int z2), some (.int z3), none, none] [] σ
    exact L_isSliced15 l ad E σ hI i hi C X 100 z2 z3 (by omega) (by omega) (by omega)
  · refine s_iconst C dX10_isSliced_7 (by decide) (fun z4 tz4 => ?_)
    refine s_goto (tgt := 12) C dX10_isSliced_8 (by decide) ?_
    refine s_istore_n C dX10_isSliced_12 (by decide) (Nat.le_of_ble_eq_true rfl) rfl ?_
    show WP E ad 13 [some (.ref (ad 71)), some (.int i), some (.int z4), none, none, none] [] σ
    refine s_iconst C dX10_isSliced_13 (by decide) (fun z5 tz5 => ?_)
    refine s_istore_n C dX10_isSliced_14 (by decide) (Nat.le_of_ble_eq_true rfl) rfl ?_
    show WP E ad 15 [some (.ref (ad 71)), some (.int i), some (.int z4), some (.int z5), none, none] [] σ
    exact L_isSliced15 l ad E σ hI i hi C X 100 z4 z5 (by omega) (by omega) (by omega)
