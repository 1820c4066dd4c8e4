set_option maxRecDepth 100000 in
theorem E_sum99 (l : Launch) (ad : Nat → Nat) (E : Ev) (σ : Sg) (i k : Int32) (hI : IM σ.1) (hi : 0 ≤ i.toInt ∧ i.toInt ≤ 1295) (B n k0 s0 : Nat) (o : List Bool) (hB : B + n ≤ 180) (hf : (σ.1 71 47).toInt = B + n) (hs0 : s0 = 1 ∨ s0 = 2) (C : Cx E l (rmk 3) 8 cX10_sumIn RX10) (X : Rx E ad (some .int) (oI (fun r τ => Fr [] [(71, 53)] σ τ ∧ SE (σ.1 71 0).toInt (fun q => σ.1 85 (B + q)) n s0 o k0 B (τ.1 71 53).toInt))) (m : Nat) (K : ∀ a b z g d : Int32, (g.toInt = 1 ∧ ∃ q0 j0 f : Nat, z.toInt = B + q0 ∧ un (σ.1 71 0).toInt (fun q => σ.1 85 (B + q)) n q0 j0 ∧ ac (σ.1 71 0).toInt (fun q => σ.1 85 (B + q)) n f s0 o j0 ∧ k0 ≤ q0) ∨ (g.toInt = 0 ∧ SE (σ.1 71 0).toInt (fun q => σ.1 85 (B + q)) n s0 o k0 B z.toInt) → (if g.toInt = 0 then 0 else ((B + n : Int) - z.toInt).toNat + 1) < m → WP E ad 11 [some (.ref (ad 71)), some (.int i), some (.int k), some (.int a), some (.int b), some (.int z), some (.int g), none] [] σ) (j0 f : Nat) (a b z g d : Int32) (hz : z.toInt = B + j0) (hac : ac (σ.1 71 0).toInt (fun q => σ.1 85 (B + q)) n f s0 o j0) (hkj : k0 < j0) (hjn : j0 ≤ n) (hme : ((B + n : Int) - z.toInt).toNat < m) (hm1 : 1 ≤ m)  : WP E ad 99 [some (.ref (ad 71)), some (.int i), some (.int k), some (.int a), some (.int b), some (.int z), some (.int g), some (.int d)] [] σ := by
  have ej : Int32.toInt (σ.1 85 z.toNatClampNeg) = Int32.toInt (σ.1 85 (B + j0)) := by rw [show z.toNatClampNeg = B + j0 by unfold Int32.toNatClampNeg; omega]
  refine s_iload C dX10_sumIn_99 rfl ?_
  refine s_aload_n C dX10_sumIn_101 rfl ?_
  refine s_get (k := 47) (x := (σ.1 71 47)) C y71 fw_X10_280 rfl rfl dX10_sumIn_102 ?_
  refine s_icmp_ge (tgt := 136) C dX10_sumIn_105 (by decide) (fun q1 => ?_) (fun q1 => ?_)
  · refine s_iconst C dX10_sumIn_136 (by decide) (fun z2 tz2 => ?_)
    refine s_istore C dX10_sumIn_137 (by decide) (Nat.le_of_ble_eq_true rfl) rfl ?_
    show WP E ad 139 [some (.ref (ad 71)), some (.int i), some (.int k), some (.int a), some (.int b), some (.int z), some (.int z2), some (.int d)] [] σ
    refine s_iload C dX10_sumIn_139 rfl ?_
    refine s_if_eq (tgt := 160) C dX10_sumIn_141 (by decide) (fun q3 => ?_) (fun q3 => ?_)
    · refine s_iconst C dX10_sumIn_160 (by decide) (fun z4 tz4 => ?_)
      refine s_istore C dX10_sumIn_161 (by decide) (Nat.le_of_ble_eq_true rfl) rfl ?_
      show WP E ad 163 [some (.ref (ad 71)), some (.int i), some (.int k), some (.int a), some (.int z4), some (.int z), some (.int z2), some (.int d)] [] σ
      refine s_iload C dX10_sumIn_163 rfl ?_
      refine s_iload C dX10_sumIn_165 rfl ?_
      refine s_if_eq (tgt := 174) C dX10_sumIn_167 (by decide) (fun q5 => ?_) (fun q5 => ?_)
      · refine s_iconst C dX10_sumIn_174 (by decide) (fun z6 tz6 => ?_)
        refine s_iadd C dX10_sumIn_175 (by omega) (fun z7 tz7 => ?_)
        refine s_istore C dX10_sumIn_176 (by decide) (Nat.le_of_ble_eq_true rfl) rfl ?_
        show WP E ad 178 [some (.ref (ad 71)), some (.int i), some (.int k), some (.int a), some (.int z4), some (.int z7), some (.int z2), some (.int d)] [] σ
        refine s_goto (tgt := 11) C dX10_sumIn_178 (by decide) ?_
        refine wp_le (lv' := [some (.ref (ad 71)), some (.int i), some (.int k), some (.int a), some (.int z4), some (.int z7), some (.int z2), none]) ⟨rfl, ⟨rfl, ⟨rfl, ⟨rfl, ⟨rfl, ⟨rfl, ⟨rfl, trivial⟩⟩⟩⟩⟩⟩⟩ ?_
        by_cases hg : z2.toInt = 0
        · exact K a z4 z7 z2 z2 (Or.inr ⟨hg, j0, f, by omega, hac, (by first | exact Or.inl (by omega) | exact Or.inr (by show ¬ (Int32.toInt (σ.1 85 (B + j0)) = 43 ∨ Int32.toInt (σ.1 85 (B + j0)) = 45); omega) | omega), hkj, hjn⟩) (by rw [if_pos hg]; omega)
        · have hj : j0 < n := by omega
          obtain ⟨f2, j2, u2, c2⟩ := ac_plus hac hj hs0 (by show Int32.toInt (σ.1 85 (B + j0)) = 43 ∨ Int32.toInt (σ.1 85 (B + j0)) = 45; omega)
          exact K a z4 z7 z2 z2 (Or.inl ⟨by omega, j0 + 1, j2, f2, by omega, u2, c2, by omega⟩) (by rw [if_neg hg]; omega)
      · refine s_iconst C dX10_sumIn_170 (by decide) (fun z8 tz8 => ?_)
        refine s_goto (tgt := 175) C dX10_sumIn_171 (by decide) ?_
        refine s_iadd C dX10_sumIn_175 (by omega) (fun z9 tz9 => ?_)
        refine s_istore C dX10_sumIn_176 (by decide) (Nat.le_of_ble_eq_true rfl) rfl ?_
        show WP E ad 178 [some (.ref (ad 71)), some (.int i), some (.int k), some (.int a), some (.int z4), some (.int z9), some (.int z2), some (.int d)] [] σ
        refine s_goto (tgt := 11) C dX10_sumIn_178 (by decide) ?_
        refine wp_le (lv' := [some (.ref (ad 71)), some (.int i), some (.int k), some (.int a), some (.int z4), some (.int z9), some (.int z2), none]) ⟨rfl, ⟨rfl, ⟨rfl, ⟨rfl, ⟨rfl, ⟨rfl, ⟨rfl, trivial⟩⟩⟩⟩⟩⟩⟩ ?_
        by_cases hg : z2.toInt = 0
        · exact K a z4 z9 z2 z2 (Or.inr ⟨hg, j0, f, by omega, hac, (by first | exact Or.inl (by omega) | exact Or.inr (by show ¬ (Int32.toInt (σ.1 85 (B + j0)) = 43 ∨ Int32.toInt (σ.1 85 (B + j0)) = 45); omega) | omega), hkj, hjn⟩) (by rw [if_pos hg]; omega)
        · have hj : j0 < n := by omega
          obtain ⟨f2, j2, u2, c2⟩ := ac_plus hac hj hs0 (by show Int32.toInt (σ.1 85 (B + j0)) = 43 ∨ Int32.toInt (σ.1 85 (B + j0)) = 45; omega)
          exact K a z4 z9 z2 z2 (Or.inl ⟨by omega, j0 + 1, j2, f2, by omega, u2, c2, by omega⟩) (by rw [if_neg hg]; omega)
    · refine s_aload_n C dX10_sumIn_144 rfl ?_
      refine s_getr (k := 16) (j := 85) C y71 fw_X10_55 rfl dX10_sumIn_145 ?_
      refine s_iload C dX10_sumIn_148 rfl ?_
      refine s_iald (r := (σ.1 85 z.toNatClampNeg)) C y85 (by omega) rfl dX10_sumIn_150 ?_
      refine s_bipush C dX10_sumIn_151 (by decide) (fun z10 tz10 => ?_)
      refine s_icmp_ne (tgt := 160) C dX10_sumIn_153 (by decide) (fun q11 => ?_) (fun q11 => ?_)
      · refine s_iconst C dX10_sumIn_160 (by decide) (fun z12 tz12 => ?_)
        refine s_istore C dX10_sumIn_161 (by decide) (Nat.le_of_ble_eq_true rfl) rfl ?_
        show WP E ad 163 [some (.ref (ad 71)), some (.int i), some (.int k), some (.int a), some (.int z12), some (.int z), some (.int z2), some (.int d)] [] σ
        refine s_iload C dX10_sumIn_163 rfl ?_
        refine s_iload C dX10_sumIn_165 rfl ?_
        refine s_if_eq (tgt := 174) C dX10_sumIn_167 (by decide) (fun q13 => ?_) (fun q13 => ?_)
        · refine s_iconst C dX10_sumIn_174 (by decide) (fun z14 tz14 => ?_)
          refine s_iadd C dX10_sumIn_175 (by omega) (fun z15 tz15 => ?_)
          refine s_istore C dX10_sumIn_176 (by decide) (Nat.le_of_ble_eq_true rfl) rfl ?_
          show WP E ad 178 [some (.ref (ad 71)), some (.int i), some (.int k), some (.int a), some (.int z12), some (.int z15), some (.int z2), some (.int d)] [] σ
          refine s_goto (tgt := 11) C dX10_sumIn_178 (by decide) ?_
          refine wp_le (lv' := [some (.ref (ad 71)), some (.int i), some (.int k), some (.int a), some (.int z12), some (.int z15), some (.int z2), none]) ⟨rfl, ⟨rfl, ⟨rfl, ⟨rfl, ⟨rfl, ⟨rfl, ⟨rfl, trivial⟩⟩⟩⟩⟩⟩⟩ ?_
          by_cases hg : z2.toInt = 0
          · exact K a z12 z15 z2 z2 (Or.inr ⟨hg, j0, f, by omega, hac, (by first | exact Or.inl (by omega) | exact Or.inr (by show ¬ (Int32.toInt (σ.1 85 (B + j0)) = 43 ∨ Int32.toInt (σ.1 85 (B + j0)) = 45); omega) | omega), hkj, hjn⟩) (by rw [if_pos hg]; omega)
          · have hj : j0 < n := by omega
            obtain ⟨f2, j2, u2, c2⟩ := ac_plus hac hj hs0 (by show Int32.toInt (σ.1 85 (B + j0)) = 43 ∨ Int32.toInt (σ.1 85 (B + j0)) = 45; omega)
            exact K a z12 z15 z2 z2 (Or.inl ⟨by omega, j0 + 1, j2, f2, by omega, u2, c2, by omega⟩) (by rw [if_neg hg]; omega)
        · refine s_iconst C dX10_sumIn_170 (by decide) (fun z16 tz16 => ?_)
          refine s_goto (tgt := 175) C dX10_sumIn_171 (by decide) ?_
          refine s_iadd C dX10_sumIn_175 (by omega) (fun z17 tz17 => ?_)
          refine s_istore C dX10_sumIn_176 (by decide) (Nat.le_of_ble_eq_true rfl) rfl ?_
          show WP E ad 178 [some (.ref (ad 71)), some (.int i), some (.int k), some (.int a), some (.int z12), some (.int z17), some (.int z2), some (.int d)] [] σ
          refine s_goto (tgt := 11) C dX10_sumIn_178 (by decide) ?_
          refine wp_le (lv' := [some (.ref (ad 71)), some (.int i), some (.int k), some (.int a), some (.int z12), some (.int z17), some (.int z2), none]) ⟨rfl, ⟨rfl, ⟨rfl, ⟨rfl, ⟨rfl, ⟨rfl, ⟨rfl, trivial⟩⟩⟩⟩⟩⟩⟩ ?_
          by_cases hg : z2.toInt = 0
          · exact K a z12 z17 z2 z2 (Or.inr ⟨hg, j0, f, by omega, hac, (by first | exact Or.inl (by omega) | exact Or.inr (by show ¬ (Int32.toInt (σ.1 85 (B + j0)) = 43 ∨ Int32.toInt (σ.1 85 (B + j0)) = 45); omega) | omega), hkj, hjn⟩) (by rw [if_pos hg]; omega)
          · have hj : j0 < n := by omega
            obtain ⟨f2, j2, u2, c2⟩ := ac_plus hac hj hs0 (by show Int32.toInt (σ.1 85 (B + j0)) = 43 ∨ Int32.toInt (σ.1 85 (B + j0)) = 45; omega)
            exact K a z12 z17 z2 z2 (Or.inl ⟨by omega, j0 + 1, j2, f2, by omega, u2, c2, by omega⟩) (by rw [if_neg hg]; omega)
      · refine s_iconst C dX10_sumIn_156 (by decide) (fun z18 tz18 => ?_)
        refine s_goto (tgt := 161) C dX10_sumIn_157 (by decide) ?_
        refine s_istore C dX10_sumIn_161 (by decide) (Nat.le_of_ble_eq_true rfl) rfl ?_
        show WP E ad 163 [some (.ref (ad 71)), some (.int i), some (.int k), some (.int a), some (.int z18), some (.int z), some (.int z2), some (.int d)] [] σ
        refine s_iload C dX10_sumIn_163 rfl ?_
        refine s_iload C dX10_sumIn_165 rfl ?_
        refine s_if_eq (tgt := 174) C dX10_sumIn_167 (by decide) (fun q19 => ?_) (fun q19 => ?_)
        · refine s_iconst C dX10_sumIn_174 (by decide) (fun z20 tz20 => ?_)
          refine s_iadd C dX10_sumIn_175 (by omega) (fun z21 tz21 => ?_)
          refine s_istore C dX10_sumIn_176 (by decide) (Nat.le_of_ble_eq_true rfl) rfl ?_
          show WP E ad 178 [some (.ref (ad 71)), some (.int i), some (.int k), some (.int a), some (.int z18), some (.int z21), some (.int z2), some (.int d)] [] σ
          refine s_goto (tgt := 11) C dX10_sumIn_178 (by decide) ?_
          refine wp_le (lv' := [some (.ref (ad 71)), some (.int i), some (.int k), some (.int a), some (.int z18), some (.int z21), some (.int z2), none]) ⟨rfl, ⟨rfl, ⟨rfl, ⟨rfl, ⟨rfl, ⟨rfl, ⟨rfl, trivial⟩⟩⟩⟩⟩⟩⟩ ?_
          by_cases hg : z2.toInt = 0
          · exact K a z18 z21 z2 z2 (Or.inr ⟨hg, j0, f, by omega, hac, (by first | exact Or.inl (by omega) | exact Or.inr (by show ¬ (Int32.toInt (σ.1 85 (B + j0)) = 43 ∨ Int32.toInt (σ.1 85 (B + j0)) = 45); omega) | omega), hkj, hjn⟩) (by rw [if_pos hg]; omega)
          · have hj : j0 < n := by omega
            obtain ⟨f2, j2, u2, c2⟩ := ac_plus hac hj hs0 (by show Int32.toInt (σ.1 85 (B + j0)) = 43 ∨ Int32.toInt (σ.1 85 (B + j0)) = 45; omega)
            exact K a z18 z21 z2 z2 (Or.inl ⟨by omega, j0 + 1, j2, f2, by omega, u2, c2, by omega⟩) (by rw [if_neg hg]; omega)
        · refine s_iconst C dX10_sumIn_170 (by decide) (fun z22 tz22 => ?_)
          refine s_goto (tgt := 175) C dX10_sumIn_171 (by decide) ?_
          refine s_iadd C dX10_sumIn_175 (by omega) (fun z23 tz23 => ?_)
          refine s_istore C dX10_sumIn_176 (by decide) (Nat.le_of_ble_eq_true rfl) rfl ?_
          show WP E ad 178 [some (.ref (ad 71)), some (.int i), some (.int k), some (.int a), some (.int z18), some (.int z23), some (.int z2), some (.int d)] [] σ
          refine s_goto (tgt := 11) C dX10_sumIn_178 (by decide) ?_
          refine wp_le (lv' := [some (.ref (ad 71)), some (.int i), some (.int k), some (.int a), some (.int z18), some (.int z23), some (.int z2), none]) ⟨rfl, ⟨rfl, ⟨rfl, ⟨rfl, ⟨rfl, ⟨rfl, ⟨rfl, trivial⟩⟩⟩⟩⟩⟩⟩ ?_
          by_cases hg : z2.toInt = 0
          · exact K a z18 z23 z2 z2 (Or.inr ⟨hg, j0, f, by omega, hac, (by first | exact Or.inl (by omega) | exact Or.inr (by show ¬ (Int32.toInt (σ.1 85 (B + j0)) = 43 ∨ Int32.toInt (σ.1 85 (B + j0)) = 45); omega) | omega), hkj, hjn⟩) (by rw [if_pos hg]; omega)
          · have hj : j0 < n := by omega
            obtain ⟨f2, j2, u2, c2⟩ := ac_plus hac hj hs0 (by show Int32.toInt (σ.1 85 (B + j0)) = 43 ∨ Int32.toInt (σ.1 85 (B + j0)) = 45; omega)
            exact K a z18 z23 z2 z2 (Or.inl ⟨by omega, j0 + 1, j2, f2, by omega, u2, c2, by omega⟩) (by rw [if_neg hg]; omega)
  · refine s_aload_n C dX10_sumIn_108 rfl ?_
    refine s_getr (k := 16) (j := 85) C y71 fw_X10_55 rfl dX10_sumIn_109 ?_
    refine s_iload C dX10_sumIn_112 rfl ?_
    refine s_iald (r := (σ.1 85 z.toNatClampNeg)) C y85 (by omega) rfl dX10_sumIn_114 ?_
    refine s_bipush C dX10_sumIn_115 (by decide) (fun z24 tz24 => ?_)
    refine s_icmp_eq (tgt := 132) C dX10_sumIn_117 (by decide) (fun q25 => ?_) (fun q25 => ?_)
    · refine s_iconst C dX10_sumIn_132 (by decide) (fun z26 tz26 => ?_)
      refine s_goto (tgt := 137) C dX10_sumIn_133 (by decide) ?_
      refine s_istore C dX10_sumIn_137 (by decide) (Nat.le_of_ble_eq_true rfl) rfl ?_
      show WP E ad 139 [some (.ref (ad 71)), some (.int i), some (.int k), some (.int a), some (.int b), some (.int z), some (.int z26), some (.int d)] [] σ
      refine s_iload C dX10_sumIn_139 rfl ?_
      refine s_if_eq (tgt := 160) C dX10_sumIn_141 (by decide) (fun q27 => ?_) (fun q27 => ?_)
      · refine s_iconst C dX10_sumIn_160 (by decide) (fun z28 tz28 => ?_)
        refine s_istore C dX10_sumIn_161 (by decide) (Nat.le_of_ble_eq_true rfl) rfl ?_
        show WP E ad 163 [some (.ref (ad 71)), some (.int i), some (.int k), some (.int a), some (.int z28), some (.int z), some (.int z26), some (.int d)] [] σ
        refine s_iload C dX10_sumIn_163 rfl ?_
        refine s_iload C dX10_sumIn_165 rfl ?_
        refine s_if_eq (tgt := 174) C dX10_sumIn_167 (by decide) (fun q29 => ?_) (fun q29 => ?_)
        · refine s_iconst C dX10_sumIn_174 (by decide) (fun z30 tz30 => ?_)
          refine s_iadd C dX10_sumIn_175 (by omega) (fun z31 tz31 => ?_)
          refine s_istore C dX10_sumIn_176 (by decide) (Nat.le_of_ble_eq_true rfl) rfl ?_
          show WP E ad 178 [some (.ref (ad 71)), some (.int i), some (.int k), some (.int a), some (.int z28), some (.int z31), some (.int z26), some (.int d)] [] σ
          refine s_goto (tgt := 11) C dX10_sumIn_178 (by decide) ?_
          refine wp_le (lv' := [some (.ref (ad 71)), some (.int i), some (.int k), some (.int a), some (.int z28), some (.int z31), some (.int z26), none]) ⟨rfl, ⟨rfl, ⟨rfl, ⟨rfl, ⟨rfl, ⟨rfl, ⟨rfl, trivial⟩⟩⟩⟩⟩⟩⟩ ?_
          by_cases hg : z26.toInt = 0
          · exact K a z28 z31 z26 z26 (Or.inr ⟨hg, j0, f, by omega, hac, (by first | exact Or.inl (by omega) | exact Or.inr (by show ¬ (Int32.toInt (σ.1 85 (B + j0)) = 43 ∨ Int32.toInt (σ.1 85 (B + j0)) = 45); omega) | omega), hkj, hjn⟩) (by rw [if_pos hg]; omega)
          · have hj : j0 < n := by omega
            obtain ⟨f2, j2, u2, c2⟩ := ac_plus hac hj hs0 (by show Int32.toInt (σ.1 85 (B + j0)) = 43 ∨ Int32.toInt (σ.1 85 (B + j0)) = 45; omega)
            exact K a z28 z31 z26 z26 (Or.inl ⟨by omega, j0 + 1, j2, f2, by omega, u2, c2, by omega⟩) (by rw [if_neg hg]; omega)
        · refine s_iconst C dX10_sumIn_170 (by decide) (fun z32 tz32 => ?_)
          refine s_goto (tgt := 175) C dX10_sumIn_171 (by decide) ?_
          refine s_iadd C dX10_sumIn_175 (by omega) (fun z33 tz33 => ?_)
          refine s_istore C dX10_sumIn_176 (by decide) (Nat.le_of_ble_eq_true rfl) rfl ?_
          show WP E ad 178 [some (.ref (ad 71)), some (.int i), some (.int k), some (.int a), some (.int z28), some (.int z33), some (.int z26), some (.int d)] [] σ
          refine s_goto (tgt := 11) C dX10_sumIn_178 (by decide) ?_
          refine wp_le (lv' := [some (.ref (ad 71)), some (.int i), some (.int k), some (.int a), some (.int z28), some (.int z33), some (.int z26), none]) ⟨rfl, ⟨rfl, ⟨rfl, ⟨rfl, ⟨rfl, ⟨rfl, ⟨rfl, trivial⟩⟩⟩⟩⟩⟩⟩ ?_
          by_cases hg : z26.toInt = 0
          · exact K a z28 z33 z26 z26 (Or.inr ⟨hg, j0, f, by omega, hac, (by first | exact Or.inl (by omega) | exact Or.inr (by show ¬ (Int32.toInt (σ.1 85 (B + j0)) = 43 ∨ Int32.toInt (σ.1 85 (B + j0)) = 45); omega) | omega), hkj, hjn⟩) (by rw [if_pos hg]; omega)
          · have hj : j0 < n := by omega
            obtain ⟨f2, j2, u2, c2⟩ := ac_plus hac hj hs0 (by show Int32.toInt (σ.1 85 (B + j0)) = 43 ∨ Int32.toInt (σ.1 85 (B + j0)) = 45; omega)
            exact K a z28 z33 z26 z26 (Or.inl ⟨by omega, j0 + 1, j2, f2, by omega, u2, c2, by omega⟩) (by rw [if_neg hg]; omega)
      · refine s_aload_n C dX10_sumIn_144 rfl ?_
        refine s_getr (k := 16) (j := 85) C y71 fw_X10_55 rfl dX10_sumIn_145 ?_
        refine s_iload C dX10_sumIn_148 rfl ?_
        refine s_iald (r := (σ.1 85 z.toNatClampNeg)) C y85 (by omega) rfl dX10_sumIn_150 ?_
        refine s_bipush C dX10_sumIn_151 (by decide) (fun z34 tz34 => ?_)
        refine s_icmp_ne (tgt := 160) C dX10_sumIn_153 (by decide) (fun q35 => ?_) (fun q35 => ?_)
        · refine s_iconst C dX10_sumIn_160 (by decide) (fun z36 tz36 => ?_)
          refine s_istore C dX10_sumIn_161 (by decide) (Nat.le_of_ble_eq_true rfl) rfl ?_
          show WP E ad 163 [some (.ref (ad 71)), some (.int i), some (.int k), some (.int a), some (.int z36), some (.int z), some (.int z26), some (.int d)] [] σ
          refine s_iload C dX10_sumIn_163 rfl ?_
          refine s_iload C dX10_sumIn_165 rfl ?_
          refine s_if_eq (tgt := 174) C dX10_sumIn_167 (by decide) (fun q37 => ?_) (fun q37 => ?_)
          · refine s_iconst C dX10_sumIn_174 (by decide) (fun z38 tz38 => ?_)
            refine s_iadd C dX10_sumIn_175 (by omega) (fun z39 tz39 => ?_)
            refine s_istore C dX10_sumIn_176 (by decide) (Nat.le_of_ble_eq_true rfl) rfl ?_
            show WP E ad 178 [some (.ref (ad 71)), some (.int i), some (.int k), some (.int a), some (.int z36), some (.int z39), some (.int z26), some (.int d)] [] σ
            refine s_goto (tgt := 11) C dX10_sumIn_178 (by decide) ?_
            refine wp_le (lv' := [some (.ref (ad 71)), some (.int i), some (.int k), some (.int a), some (.int z36), some (.int z39), some (.int z26), none]) ⟨rfl, ⟨rfl, ⟨rfl, ⟨rfl, ⟨rfl, ⟨rfl, ⟨rfl, trivial⟩⟩⟩⟩⟩⟩⟩ ?_
            by_cases hg : z26.toInt = 0
            · exact K a z36 z39 z26 z26 (Or.inr ⟨hg, j0, f, by omega, hac, (by first | exact Or.inl (by omega) | exact Or.inr (by show ¬ (Int32.toInt (σ.1 85 (B + j0)) = 43 ∨ Int32.toInt (σ.1 85 (B + j0)) = 45); omega) | omega), hkj, hjn⟩) (by rw [if_pos hg]; omega)
            · have hj : j0 < n := by omega
              obtain ⟨f2, j2, u2, c2⟩ := ac_plus hac hj hs0 (by show Int32.toInt (σ.1 85 (B + j0)) = 43 ∨ Int32.toInt (σ.1 85 (B + j0)) = 45; omega)
              exact K a z36 z39 z26 z26 (Or.inl ⟨by omega, j0 + 1, j2, f2, by omega, u2, c2, by omega⟩) (by rw [if_neg hg]; omega)
          · refine s_iconst C dX10_sumIn_170 (by decide) (fun z40 tz40 => ?_)
            refine s_goto (tgt := 175) C dX10_sumIn_171 (by decide) ?_
            refine s_iadd C dX10_sumIn_175 (by omega) (fun z41 tz41 => ?_)
            refine s_istore C dX10_sumIn_176 (by decide) (Nat.le_of_ble_eq_true rfl) rfl ?_
            show WP E ad 178 [some (.ref (ad 71)), some (.int i), some (.int k), some (.int a), some (.int z36), some (.int z41), some (.int z26), some (.int d)] [] σ
            refine s_goto (tgt := 11) C dX10_sumIn_178 (by decide) ?_
            refine wp_le (lv' := [some (.ref (ad 71)), some (.int i), some (.int k), some (.int a), some (.int z36), some (.int z41), some (.int z26), none]) ⟨rfl, ⟨rfl, ⟨rfl, ⟨rfl, ⟨rfl, ⟨rfl, ⟨rfl, trivial⟩⟩⟩⟩⟩⟩⟩ ?_
            by_cases hg : z26.toInt = 0
            · exact K a z36 z41 z26 z26 (Or.inr ⟨hg, j0, f, by omega, hac, (by first | exact Or.inl (by omega) | exact Or.inr (by show ¬ (Int32.toInt (σ.1 85 (B + j0)) = 43 ∨ Int32.toInt (σ.1 85 (B + j0)) = 45); omega) | omega), hkj, hjn⟩) (by rw [if_pos hg]; omega)
            · have hj : j0 < n := by omega
              obtain ⟨f2, j2, u2, c2⟩ := ac_plus hac hj hs0 (by show Int32.toInt (σ.1 85 (B + j0)) = 43 ∨ Int32.toInt (σ.1 85 (B + j0)) = 45; omega)
              exact K a z36 z41 z26 z26 (Or.inl ⟨by omega, j0 + 1, j2, f2, by omega, u2, c2, by omega⟩) (by rw [if_neg hg]; omega)
        · refine s_iconst C dX10_sumIn_156 (by decide) (fun z42 tz42 => ?_)
          refine s_goto (tgt := 161) C dX10_sumIn_157 (by decide) ?_
          refine s_istore C dX10_sumIn_161 (by decide) (Nat.le_of_ble_eq_true rfl) rfl ?_
          show WP E ad 163 [some (.ref (ad 71)), some (.int i), some (.int k), some (.int a), some (.int z42), some (.int z), some (.int z26), some (.int d)] [] σ
          refine s_iload C dX10_sumIn_163 rfl ?_
          refine s_iload C dX10_sumIn_165 rfl ?_
          refine s_if_eq (tgt := 174) C dX10_sumIn_167 (by decide) (fun q43 => ?_) (fun q43 => ?_)
          · refine s_iconst C dX10_sumIn_174 (by decide) (fun z44 tz44 => ?_)
            refine s_iadd C dX10_sumIn_175 (by omega) (fun z45 tz45 => ?_)
            refine s_istore C dX10_sumIn_176 (by decide) (Nat.le_of_ble_eq_true rfl) rfl ?_
            show WP E ad 178 [some (.ref (ad 71)), some (.int i), some (.int k), some (.int a), some (.int z42), some (.int z45), some (.int z26), some (.int d)] [] σ
            refine s_goto (tgt := 11) C dX10_sumIn_178 (by decide) ?_
            refine wp_le (lv' := [some (.ref (ad 71)), some (.int i), some (.int k), some (.int a), some (.int z42), some (.int z45), some (.int z26), none]) ⟨rfl, ⟨rfl, ⟨rfl, ⟨rfl, ⟨rfl, ⟨rfl, ⟨rfl, trivial⟩⟩⟩⟩⟩⟩⟩ ?_
            by_cases hg : z26.toInt = 0
            · exact K a z42 z45 z26 z26 (Or.inr ⟨hg, j0, f, by omega, hac, (by first | exact Or.inl (by omega) | exact Or.inr (by show ¬ (Int32.toInt (σ.1 85 (B + j0)) = 43 ∨ Int32.toInt (σ.1 85 (B + j0)) = 45); omega) | omega), hkj, hjn⟩) (by rw [if_pos hg]; omega)
            · have hj : j0 < n := by omega
              obtain ⟨f2, j2, u2, c2⟩ := ac_plus hac hj hs0 (by show Int32.toInt (σ.1 85 (B + j0)) = 43 ∨ Int32.toInt (σ.1 85 (B + j0)) = 45; omega)
              exact K a z42 z45 z26 z26 (Or.inl ⟨by omega, j0 + 1, j2, f2, by omega, u2, c2, by omega⟩) (by rw [if_neg hg]; omega)
          · refine s_iconst C dX10_sumIn_170 (by decide) (fun z46 tz46 => ?_)
            refine s_goto (tgt := 175) C dX10_sumIn_171 (by decide) ?_
            refine s_iadd C dX10_sumIn_175 (by omega) (fun z47 tz47 => ?_)
            refine s_istore C dX10_sumIn_176 (by decide) (Nat.le_of_ble_eq_true rfl) rfl ?_
            show WP E ad 178 [some (.ref (ad 71)), some (.int i), some (.int k), some (.int a), some (.int z42), some (.int z47), some (.int z26), some (.int d)] [] σ
            refine s_goto (tgt := 11) C dX10_sumIn_178 (by decide) ?_
            refine wp_le (lv' := [some (.ref (ad 71)), some (.int i), some (.int k), some (.int a), some (.int z42), some (.int z47), some (.int z26), none]) ⟨rfl, ⟨rfl, ⟨rfl, ⟨rfl, ⟨rfl, ⟨rfl, ⟨rfl, trivial⟩⟩⟩⟩⟩⟩⟩ ?_
            by_cases hg : z26.toInt = 0
            · exact K a z42 z47 z26 z26 (Or.inr ⟨hg, j0, f, by omega, hac, (by first | exact Or.inl (by omega) | exact Or.inr (by show ¬ (Int32.toInt (σ.1 85 (B + j0)) = 43 ∨ Int32.toInt (σ.1 85 (B + j0)) = 45); omega) | omega), hkj, hjn⟩) (by rw [if_pos hg]; omega)
            · have hj : j0 < n := by omega
              obtain ⟨f2, j2, u2, c2⟩ := ac_plus hac hj hs0 (by show Int32.toInt (σ.1 85 (B + j0)) = 43 ∨ Int32.toInt (σ.1 85 (B + j0)) = 45; omega)
              exact K a z42 z47 z26 z26 (Or.inl ⟨by omega, j0 + 1, j2, f2, by omega, u2, c2, by omega⟩) (by rw [if_neg hg]; omega)
    · refine s_aload_n C dX10_sumIn_120 rfl ?_
      refine s_getr (k := 16) (j := 85) C y71 fw_X10_55 rfl dX10_sumIn_121 ?_
      refine s_iload C dX10_sumIn_124 rfl ?_
      refine s_iald (r := (σ.1 85 z.toNatClampNeg)) C y85 (by omega) rfl dX10_sumIn_126 ?_
      refine s_bipush C dX10_sumIn_127 (by decide) (fun z48 tz48 => ?_)
      refine s_icmp_ne (tgt := 136) C dX10_sumIn_129 (by decide) (fun q49 => ?_) (fun q49 => ?_)
      · refine s_iconst C dX10_sumIn_136 (by decide) (fun z50 tz50 => ?_)
        refine s_istore C dX10_sumIn_137 (by decide) (Nat.le_of_ble_eq_true rfl) rfl ?_
        show WP E ad 139 [some (.ref (ad 71)), some (.int i), some (.int k), some (.int a), some (.int b), some (.int z), some (.int z50), some (.int d)] [] σ
        refine s_iload C dX10_sumIn_139 rfl ?_
        refine s_if_eq (tgt := 160) C dX10_sumIn_141 (by decide) (fun q51 => ?_) (fun q51 => ?_)
        · refine s_iconst C dX10_sumIn_160 (by decide) (fun z52 tz52 => ?_)
          refine s_istore C dX10_sumIn_161 (by decide) (Nat.le_of_ble_eq_true rfl) rfl ?_
          show WP E ad 163 [some (.ref (ad 71)), some (.int i), some (.int k), some (.int a), some (.int z52), some (.int z), some (.int z50), some (.int d)] [] σ
          refine s_iload C dX10_sumIn_163 rfl ?_
          refine s_iload C dX10_sumIn_165 rfl ?_
          refine s_if_eq (tgt := 174) C dX10_sumIn_167 (by decide) (fun q53 => ?_) (fun q53 => ?_)
          · refine s_iconst C dX10_sumIn_174 (by decide) (fun z54 tz54 => ?_)
            refine s_iadd C dX10_sumIn_175 (by omega) (fun z55 tz55 => ?_)
            refine s_istore C dX10_sumIn_176 (by decide) (Nat.le_of_ble_eq_true rfl) rfl ?_
            show WP E ad 178 [some (.ref (ad 71)), some (.int i), some (.int k), some (.int a), some (.int z52), some (.int z55), some (.int z50), some (.int d)] [] σ
            refine s_goto (tgt := 11) C dX10_sumIn_178 (by decide) ?_
            refine wp_le (lv' := [some (.ref (ad 71)), some (.int i), some (.int k), some (.int a), some (.int z52), some (.int z55), some (.int z50), none]) ⟨rfl, ⟨rfl, ⟨rfl, ⟨rfl, ⟨rfl, ⟨rfl, ⟨rfl, trivial⟩⟩⟩⟩⟩⟩⟩ ?_
            by_cases hg : z50.toInt = 0
            · exact K a z52 z55 z50 z50 (Or.inr ⟨hg, j0, f, by omega, hac, (by first | exact Or.inl (by omega) | exact Or.inr (by show ¬ (Int32.toInt (σ.1 85 (B + j0)) = 43 ∨ Int32.toInt (σ.1 85 (B + j0)) = 45); omega) | omega), hkj, hjn⟩) (by rw [if_pos hg]; omega)
            · have hj : j0 < n := by omega
              obtain ⟨f2, j2, u2, c2⟩ := ac_plus hac hj hs0 (by show Int32.toInt (σ.1 85 (B + j0)) = 43 ∨ Int32.toInt (σ.1 85 (B + j0)) = 45; omega)
              exact K a z52 z55 z50 z50 (Or.inl ⟨by omega, j0 + 1, j2, f2, by omega, u2, c2, by omega⟩) (by rw [if_neg hg]; omega)
          · refine s_iconst C dX10_sumIn_170 (by decide) (fun z56 tz56 => ?_)
            refine s_goto (tgt := 175) C dX10_sumIn_171 (by decide) ?_
            refine s_iadd C dX10_sumIn_175 (by omega) (fun z57 tz57 => ?_)
            refine s_istore C dX10_sumIn_176 (by decide) (Nat.le_of_ble_eq_true rfl) rfl ?_
            show WP E ad 178 [some (.ref (ad 71)), some (.int i), some (.int k), some (.int a), some (.int z52), some (.int z57), some (.int z50), some (.int d)] [] σ
            refine s_goto (tgt := 11) C dX10_sumIn_178 (by decide) ?_
            refine wp_le (lv' := [some (.ref (ad 71)), some (.int i), some (.int k), some (.int a), some (.int z52), some (.int z57), some (.int z50), none]) ⟨rfl, ⟨rfl, ⟨rfl, ⟨rfl, ⟨rfl, ⟨rfl, ⟨rfl, trivial⟩⟩⟩⟩⟩⟩⟩ ?_
            by_cases hg : z50.toInt = 0
            · exact K a z52 z57 z50 z50 (Or.inr ⟨hg, j0, f, by omega, hac, (by first | exact Or.inl (by omega) | exact Or.inr (by show ¬ (Int32.toInt (σ.1 85 (B + j0)) = 43 ∨ Int32.toInt (σ.1 85 (B + j0)) = 45); omega) | omega), hkj, hjn⟩) (by rw [if_pos hg]; omega)
            · have hj : j0 < n := by omega
              obtain ⟨f2, j2, u2, c2⟩ := ac_plus hac hj hs0 (by show Int32.toInt (σ.1 85 (B + j0)) = 43 ∨ Int32.toInt (σ.1 85 (B + j0)) = 45; omega)
              exact K a z52 z57 z50 z50 (Or.inl ⟨by omega, j0 + 1, j2, f2, by omega, u2, c2, by omega⟩) (by rw [if_neg hg]; omega)
        · refine s_aload_n C dX10_sumIn_144 rfl ?_
          refine s_getr (k := 16) (j := 85) C y71 fw_X10_55 rfl dX10_sumIn_145 ?_
          refine s_iload C dX10_sumIn_148 rfl ?_
          refine s_iald (r := (σ.1 85 z.toNatClampNeg)) C y85 (by omega) rfl dX10_sumIn_150 ?_
          refine s_bipush C dX10_sumIn_151 (by decide) (fun z58 tz58 => ?_)
          refine s_icmp_ne (tgt := 160) C dX10_sumIn_153 (by decide) (fun q59 => ?_) (fun q59 => ?_)
          · refine s_iconst C dX10_sumIn_160 (by decide) (fun z60 tz60 => ?_)
            refine s_istore C dX10_sumIn_161 (by decide) (Nat.le_of_ble_eq_true rfl) rfl ?_
            show WP E ad 163 [some (.ref (ad 71)), some (.int i), some (.int k), some (.int a), some (.int z60), some (.int z), some (.int z50), some (.int d)] [] σ
            refine s_iload C dX10_sumIn_163 rfl ?_
            refine s_iload C dX10_sumIn_165 rfl ?_
            refine s_if_eq (tgt := 174) C dX10_sumIn_167 (by decide) (fun q61 => ?_) (fun q61 => ?_)
            · refine s_iconst C dX10_sumIn_174 (by decide) (fun z62 tz62 => ?_)
              refine s_iadd C dX10_sumIn_175 (by omega) (fun z63 tz63 => ?_)
              refine s_istore C dX10_sumIn_176 (by decide) (Nat.le_of_ble_eq_true rfl) rfl ?_
              show WP E ad 178 [some (.ref (ad 71)), some (.int i), some (.int k), some (.int a), some (.int z60), some (.int z63), some (.int z50), some (.int d)] [] σ
              refine s_goto (tgt := 11) C dX10_sumIn_178 (by decide) ?_
              refine wp_le (lv' := [some (.ref (ad 71)), some (.int i), some (.int k), some (.int a), some (.int z60), some (.int z63), some (.int z50), none]) ⟨rfl, ⟨rfl, ⟨rfl, ⟨rfl, ⟨rfl, ⟨rfl, ⟨rfl, trivial⟩⟩⟩⟩⟩⟩⟩ ?_
              by_cases hg : z50.toInt = 0
              · exact K a z60 z63 z50 z50 (Or.inr ⟨hg, j0, f, by omega, hac, (by first | exact Or.inl (by omega) | exact Or.inr (by show ¬ (Int32.toInt (σ.1 85 (B + j0)) = 43 ∨ Int32.toInt (σ.1 85 (B + j0)) = 45); omega) | omega), hkj, hjn⟩) (by rw [if_pos hg]; omega)
              · have hj : j0 < n := by omega
                obtain ⟨f2, j2, u2, c2⟩ := ac_plus hac hj hs0 (by show Int32.toInt (σ.1 85 (B + j0)) = 43 ∨ Int32.toInt (σ.1 85 (B + j0)) = 45; omega)
                exact K a z60 z63 z50 z50 (Or.inl ⟨by omega, j0 + 1, j2, f2, by omega, u2, c2, by omega⟩) (by rw [if_neg hg]; omega)
            · refine s_iconst C dX10_sumIn_170 (by decide) (fun z64 tz64 => ?_)
              refine s_goto (tgt := 175) C dX10_sumIn_171 (by decide) ?_
              refine s_iadd C dX10_sumIn_175 (by omega) (fun z65 tz65 => ?_)
              refine s_istore C dX10_sumIn_176 (by decide) (Nat.le_of_ble_eq_true rfl) rfl ?_
              show WP E ad 178 [some (.ref (ad 71)), some (.int i), some (.int k), some (.int a), some (.int z60), some (.int z65), some (.int z50), some (.int d)] [] σ
              refine s_goto (tgt := 11) C dX10_sumIn_178 (by decide) ?_
              refine wp_le (lv' := [some (.ref (ad 71)), some (.int i), some (.int k), some (.int a), some (.int z60), some (.int z65), some (.int z50), none]) ⟨rfl, ⟨rfl, ⟨rfl, ⟨rfl, ⟨rfl, ⟨rfl, ⟨rfl, trivial⟩⟩⟩⟩⟩⟩⟩ ?_
              by_cases hg : z50.toInt = 0
              · exact K a z60 z65 z50 z50 (Or.inr ⟨hg, j0, f, by omega, hac, (by first | exact Or.inl (by omega) | exact Or.inr (by show ¬ (Int32.toInt (σ.1 85 (B + j0)) = 43 ∨ Int32.toInt (σ.1 85 (B + j0)) = 45); omega) | omega), hkj, hjn⟩) (by rw [if_pos hg]; omega)
              · have hj : j0 < n := by omega
                obtain ⟨f2, j2, u2, c2⟩ := ac_plus hac hj hs0 (by show Int32.toInt (σ.1 85 (B + j0)) = 43 ∨ Int32.toInt (σ.1 85 (B + j0)) = 45; omega)
                exact K a z60 z65 z50 z50 (Or.inl ⟨by omega, j0 + 1, j2, f2, by omega, u2, c2, by omega⟩) (by rw [if_neg hg]; omega)
          · refine s_iconst C dX10_sumIn_156 (by decide) (fun z66 tz66 => ?_)
            refine s_goto (tgt := 161) C dX10_sumIn_157 (by decide) ?_
            refine s_istore C dX10_sumIn_161 (by decide) (Nat.le_of_ble_eq_true rfl) rfl ?_
            show WP E ad 163 [some (.ref (ad 71)), some (.int i), some (.int k), some (.int a), some (.int z66), some (.int z), some (.int z50), some (.int d)] [] σ
            refine s_iload C dX10_sumIn_163 rfl ?_
            refine s_iload C dX10_sumIn_165 rfl ?_
            refine s_if_eq (tgt := 174) C dX10_sumIn_167 (by decide) (fun q67 => ?_) (fun q67 => ?_)
            · refine s_iconst C dX10_sumIn_174 (by decide) (fun z68 tz68 => ?_)
              refine s_iadd C dX10_sumIn_175 (by omega) (fun z69 tz69 => ?_)
              refine s_istore C dX10_sumIn_176 (by decide) (Nat.le_of_ble_eq_true rfl) rfl ?_
              show WP E ad 178 [some (.ref (ad 71)), some (.int i), some (.int k), some (.int a), some (.int z66), some (.int z69), some (.int z50), some (.int d)] [] σ
              refine s_goto (tgt := 11) C dX10_sumIn_178 (by decide) ?_
              refine wp_le (lv' := [some (.ref (ad 71)), some (.int i), some (.int k), some (.int a), some (.int z66), some (.int z69), some (.int z50), none]) ⟨rfl, ⟨rfl, ⟨rfl, ⟨rfl, ⟨rfl, ⟨rfl, ⟨rfl, trivial⟩⟩⟩⟩⟩⟩⟩ ?_
              by_cases hg : z50.toInt = 0
              · exact K a z66 z69 z50 z50 (Or.inr ⟨hg, j0, f, by omega, hac, (by first | exact Or.inl (by omega) | exact Or.inr (by show ¬ (Int32.toInt (σ.1 85 (B + j0)) = 43 ∨ Int32.toInt (σ.1 85 (B + j0)) = 45); omega) | omega), hkj, hjn⟩) (by rw [if_pos hg]; omega)
              · have hj : j0 < n := by omega
                obtain ⟨f2, j2, u2, c2⟩ := ac_plus hac hj hs0 (by show Int32.toInt (σ.1 85 (B + j0)) = 43 ∨ Int32.toInt (σ.1 85 (B + j0)) = 45; omega)
                exact K a z66 z69 z50 z50 (Or.inl ⟨by omega, j0 + 1, j2, f2, by omega, u2, c2, by omega⟩) (by rw [if_neg hg]; omega)
            · refine s_iconst C dX10_sumIn_170 (by decide) (fun z70 tz70 => ?_)
              refine s_goto (tgt := 175) C dX10_sumIn_171 (by decide) ?_
              refine s_iadd C dX10_sumIn_175 (by omega) (fun z71 tz71 => ?_)
              refine s_istore C dX10_sumIn_176 (by decide) (Nat.le_of_ble_eq_true rfl) rfl ?_
              show WP E ad 178 [some (.ref (ad 71)), some (.int i), some (.int k), some (.int a), some (.int z66), some (.int z71), some (.int z50), some (.int d)] [] σ
              refine s_goto (tgt := 11) C dX10_sumIn_178 (by decide) ?_
              refine wp_le (lv' := [some (.ref (ad 71)), some (.int i), some (.int k), some (.int a), some (.int z66), some (.int z71), some (.int z50), none]) ⟨rfl, ⟨rfl, ⟨rfl, ⟨rfl, ⟨rfl, ⟨rfl, ⟨rfl, trivial⟩⟩⟩⟩⟩⟩⟩ ?_
              by_cases hg : z50.toInt = 0
              · exact K a z66 z71 z50 z50 (Or.inr ⟨hg, j0, f, by omega, hac, (by first | exact Or.inl (by omega) | exact Or.inr (by show ¬ (Int32.toInt (σ.1 85 (B + j0)) = 43 ∨ Int32.toInt (σ.1 85 (B + j0)) = 45); omega) | omega), hkj, hjn⟩) (by rw [if_pos hg]; omega)
              · have hj : j0 < n := by omega
                obtain ⟨f2, j2, u2, c2⟩ := ac_plus hac hj hs0 (by show Int32.toInt (σ.1 85 (B + j0)) = 43 ∨ Int32.toInt (σ.1 85 (B + j0)) = 45; omega)
                exact K a z66 z71 z50 z50 (Or.inl ⟨by omega, j0 + 1, j2, f2, by omega, u2, c2, by omega⟩) (by rw [if_neg hg]; omega)
      · refine s_iconst C dX10_sumIn_132 (by decide) (fun z72 tz72 => ?_)
        refine s_goto (tgt := 137) C dX10_sumIn_133 (by decide) ?_
        refine s_istore C dX10_sumIn_137 (by decide) (Nat.le_of_ble_eq_true rfl) rfl ?_
        show WP E ad 139 [some (.ref (ad 71)), some (.int i), some (.int k), some (.int a), some (.int b), some (.int z), some (.int z72), some (.int d)] [] σ
        refine s_iload C dX10_sumIn_139 rfl ?_
        refine s_if_eq (tgt := 160) C dX10_sumIn_141 (by decide) (fun q73 => ?_) (fun q73 => ?_)
        · refine s_iconst C dX10_sumIn_160 (by decide) (fun z74 tz74 => ?_)
          refine s_istore C dX10_sumIn_161 (by decide) (Nat.le_of_ble_eq_true rfl) rfl ?_
          show WP E ad 163 [some (.ref (ad 71)), some (.int i), some (.int k), some (.int a), some (.int z74), some (.int z), some (.int z72), some (.int d)] [] σ
          refine s_iload C dX10_sumIn_163 rfl ?_
          refine s_iload C dX10_sumIn_165 rfl ?_
          refine s_if_eq (tgt := 174) C dX10_sumIn_167 (by decide) (fun q75 => ?_) (fun q75 => ?_)
          · refine s_iconst C dX10_sumIn_174 (by decide) (fun z76 tz76 => ?_)
            refine s_iadd C dX10_sumIn_175 (by omega) (fun z77 tz77 => ?_)
            refine s_istore C dX10_sumIn_176 (by decide) (Nat.le_of_ble_eq_true rfl) rfl ?_
            show WP E ad 178 [some (.ref (ad 71)), some (.int i), some (.int k), some (.int a), some (.int z74), some (.int z77), some (.int z72), some (.int d)] [] σ
            refine s_goto (tgt := 11) C dX10_sumIn_178 (by decide) ?_
            refine wp_le (lv' := [some (.ref (ad 71)), some (.int i), some (.int k), some (.int a), some (.int z74), some (.int z77), some (.int z72), none]) ⟨rfl, ⟨rfl, ⟨rfl, ⟨rfl, ⟨rfl, ⟨rfl, ⟨rfl, trivial⟩⟩⟩⟩⟩⟩⟩ ?_
            by_cases hg : z72.toInt = 0
            · exact K a z74 z77 z72 z72 (Or.inr ⟨hg, j0, f, by omega, hac, (by first | exact Or.inl (by omega) | exact Or.inr (by show ¬ (Int32.toInt (σ.1 85 (B + j0)) = 43 ∨ Int32.toInt (σ.1 85 (B + j0)) = 45); omega) | omega), hkj, hjn⟩) (by rw [if_pos hg]; omega)
            · have hj : j0 < n := by omega
              obtain ⟨f2, j2, u2, c2⟩ := ac_plus hac hj hs0 (by show Int32.toInt (σ.1 85 (B + j0)) = 43 ∨ Int32.toInt (σ.1 85 (B + j0)) = 45; omega)
              exact K a z74 z77 z72 z72 (Or.inl ⟨by omega, j0 + 1, j2, f2, by omega, u2, c2, by omega⟩) (by rw [if_neg hg]; omega)
          · refine s_iconst C dX10_sumIn_170 (by decide) (fun z78 tz78 => ?_)
            refine s_goto (tgt := 175) C dX10_sumIn_171 (by decide) ?_
            refine s_iadd C dX10_sumIn_175 (by omega) (fun z79 tz79 => ?_)
            refine s_istore C dX10_sumIn_176 (by decide) (Nat.le_of_ble_eq_true rfl) rfl ?_
            show WP E ad 178 [some (.ref (ad 71)), some (.int i), some (.int k), some (.int a), some (.int z74), some (.int z79), some (.int z72), some (.int d)] [] σ
            refine s_goto (tgt := 11) C dX10_sumIn_178 (by decide) ?_
            refine wp_le (lv' := [some (.ref (ad 71)), some (.int i), some (.int k), some (.int a), some (.int z74), some (.int z79), some (.int z72), none]) ⟨rfl, ⟨rfl, ⟨rfl, ⟨rfl, ⟨rfl, ⟨rfl, ⟨rfl, trivial⟩⟩⟩⟩⟩⟩⟩ ?_
            by_cases hg : z72.toInt = 0
            · exact K a z74 z79 z72 z72 (Or.inr ⟨hg, j0, f, by omega, hac, (by first | exact Or.inl (by omega) | exact Or.inr (by show ¬ (Int32.toInt (σ.1 85 (B + j0)) = 43 ∨ Int32.toInt (σ.1 85 (B + j0)) = 45); omega) | omega), hkj, hjn⟩) (by rw [if_pos hg]; omega)
            · have hj : j0 < n := by omega
              obtain ⟨f2, j2, u2, c2⟩ := ac_plus hac hj hs0 (by show Int32.toInt (σ.1 85 (B + j0)) = 43 ∨ Int32.toInt (σ.1 85 (B + j0)) = 45; omega)
              exact K a z74 z79 z72 z72 (Or.inl ⟨by omega, j0 + 1, j2, f2, by omega, u2, c2, by omega⟩) (by rw [if_neg hg]; omega)
        · refine s_aload_n C dX10_sumIn_144 rfl ?_
          refine s_getr (k := 16) (j := 85) C y71 fw_X10_55 rfl dX10_sumIn_145 ?_
          refine s_iload C dX10_sumIn_148 rfl ?_
          refine s_iald (r := (σ.1 85 z.toNatClampNeg)) C y85 (by omega) rfl dX10_sumIn_150 ?_
          refine s_bipush C dX10_sumIn_151 (by decide) (fun z80 tz80 => ?_)
          refine s_icmp_ne (tgt := 160) C dX10_sumIn_153 (by decide) (fun q81 => ?_) (fun q81 => ?_)
          · refine s_iconst C dX10_sumIn_160 (by decide) (fun z82 tz82 => ?_)
            refine s_istore C dX10_sumIn_161 (by decide) (Nat.le_of_ble_eq_true rfl) rfl ?_
            show WP E ad 163 [some (.ref (ad 71)), some (.int i), some (.int k), some (.int a), some (.int z82), some (.int z), some (.int z72), some (.int d)] [] σ
            refine s_iload C dX10_sumIn_163 rfl ?_
            refine s_iload C dX10_sumIn_165 rfl ?_
            refine s_if_eq (tgt := 174) C dX10_sumIn_167 (by decide) (fun q83 => ?_) (fun q83 => ?_)
            · refine s_iconst C dX10_sumIn_174 (by decide) (fun z84 tz84 => ?_)
              refine s_iadd C dX10_sumIn_175 (by omega) (fun z85 tz85 => ?_)
              refine s_istore C dX10_sumIn_176 (by decide) (Nat.le_of_ble_eq_true rfl) rfl ?_
              show WP E ad 178 [some (.ref (ad 71)), some (.int i), some (.int k), some (.int a), some (.int z82), some (.int z85), some (.int z72), some (.int d)] [] σ
              refine s_goto (tgt := 11) C dX10_sumIn_178 (by decide) ?_
              refine wp_le (lv' := [some (.ref (ad 71)), some (.int i), some (.int k), some (.int a), some (.int z82), some (.int z85), some (.int z72), none]) ⟨rfl, ⟨rfl, ⟨rfl, ⟨rfl, ⟨rfl, ⟨rfl, ⟨rfl, trivial⟩⟩⟩⟩⟩⟩⟩ ?_
              by_cases hg : z72.toInt = 0
              · exact K a z82 z85 z72 z72 (Or.inr ⟨hg, j0, f, by omega, hac, (by first | exact Or.inl (by omega) | exact Or.inr (by show ¬ (Int32.toInt (σ.1 85 (B + j0)) = 43 ∨ Int32.toInt (σ.1 85 (B + j0)) = 45); omega) | omega), hkj, hjn⟩) (by rw [if_pos hg]; omega)
              · have hj : j0 < n := by omega
                obtain ⟨f2, j2, u2, c2⟩ := ac_plus hac hj hs0 (by show Int32.toInt (σ.1 85 (B + j0)) = 43 ∨ Int32.toInt (σ.1 85 (B + j0)) = 45; omega)
                exact K a z82 z85 z72 z72 (Or.inl ⟨by omega, j0 + 1, j2, f2, by omega, u2, c2, by omega⟩) (by rw [if_neg hg]; omega)
            · refine s_iconst C dX10_sumIn_170 (by decide) (fun z86 tz86 => ?_)
              refine s_goto (tgt := 175) C dX10_sumIn_171 (by decide) ?_
              refine s_iadd C dX10_sumIn_175 (by omega) (fun z87 tz87 => ?_)
              refine s_istore C dX10_sumIn_176 (by decide) (Nat.le_of_ble_eq_true rfl) rfl ?_
              show WP E ad 178 [some (.ref (ad 71)), some (.int i), some (.int k), some (.int a), some (.int z82), some (.int z87), some (.int z72), some (.int d)] [] σ
              refine s_goto (tgt := 11) C dX10_sumIn_178 (by decide) ?_
              refine wp_le (lv' := [some (.ref (ad 71)), some (.int i), some (.int k), some (.int a), some (.int z82), some (.int z87), some (.int z72), none]) ⟨rfl, ⟨rfl, ⟨rfl, ⟨rfl, ⟨rfl, ⟨rfl, ⟨rfl, trivial⟩⟩⟩⟩⟩⟩⟩ ?_
              by_cases hg : z72.toInt = 0
              · exact K a z82 z87 z72 z72 (Or.inr ⟨hg, j0, f, by omega, hac, (by first | exact Or.inl (by omega) | exact Or.inr (by show ¬ (Int32.toInt (σ.1 85 (B + j0)) = 43 ∨ Int32.toInt (σ.1 85 (B + j0)) = 45); omega) | omega), hkj, hjn⟩) (by rw [if_pos hg]; omega)
              · have hj : j0 < n := by omega
                obtain ⟨f2, j2, u2, c2⟩ := ac_plus hac hj hs0 (by show Int32.toInt (σ.1 85 (B + j0)) = 43 ∨ Int32.toInt (σ.1 85 (B + j0)) = 45; omega)
                exact K a z82 z87 z72 z72 (Or.inl ⟨by omega, j0 + 1, j2, f2, by omega, u2, c2, by omega⟩) (by rw [if_neg hg]; omega)
          · refine s_iconst C dX10_sumIn_156 (by decide) (fun z88 tz88 => ?_)
            refine s_goto (tgt := 161) C dX10_sumIn_157 (by decide) ?_
            refine s_istore C dX10_sumIn_161 (by decide) (Nat.le_of_ble_eq_true rfl) rfl ?_
            show WP E ad 163 [some (.ref (ad 71)), some (.int i), some (.int k), some (.int a), some (.int z88), some (.int z), some (.int z72), some (.int d)] [] σ
            refine s_iload C dX10_sumIn_163 rfl ?_
            refine s_iload C dX10_sumIn_165 rfl ?_
            refine s_if_eq (tgt := 174) C dX10_sumIn_167 (by decide) (fun q89 => ?_) (fun q89 => ?_)
            · refine s_iconst C dX10_sumIn_174 (by decide) (fun z90 tz90 => ?_)
              refine s_iadd C dX10_sumIn_175 (by omega) (fun z91 tz91 => ?_)
              refine s_istore C dX10_sumIn_176 (by decide) (Nat.le_of_ble_eq_true rfl) rfl ?_
              show WP E ad 178 [some (.ref (ad 71)), some (.int i), some (.int k), some (.int a), some (.int z88), some (.int z91), some (.int z72), some (.int d)] [] σ
              refine s_goto (tgt := 11) C dX10_sumIn_178 (by decide) ?_
              refine wp_le (lv' := [some (.ref (ad 71)), some (.int i), some (.int k), some (.int a), some (.int z88), some (.int z91), some (.int z72), none]) ⟨rfl, ⟨rfl, ⟨rfl, ⟨rfl, ⟨rfl, ⟨rfl, ⟨rfl, trivial⟩⟩⟩⟩⟩⟩⟩ ?_
              by_cases hg : z72.toInt = 0
              · exact K a z88 z91 z72 z72 (Or.inr ⟨hg, j0, f, by omega, hac, (by first | exact Or.inl (by omega) | exact Or.inr (by show ¬ (Int32.toInt (σ.1 85 (B + j0)) = 43 ∨ Int32.toInt (σ.1 85 (B + j0)) = 45); omega) | omega), hkj, hjn⟩) (by rw [if_pos hg]; omega)
              · have hj : j0 < n := by omega
                obtain ⟨f2, j2, u2, c2⟩ := ac_plus hac hj hs0 (by show Int32.toInt (σ.1 85 (B + j0)) = 43 ∨ Int32.toInt (σ.1 85 (B + j0)) = 45; omega)
                exact K a z88 z91 z72 z72 (Or.inl ⟨by omega, j0 + 1, j2, f2, by omega, u2, c2, by omega⟩) (by rw [if_neg hg]; omega)
            · refine s_iconst C dX10_sumIn_170 (by decide) (fun z92 tz92 => ?_)
              refine s_goto (tgt := 175) C dX10_sumIn_171 (by decide) ?_
              refine s_iadd C dX10_sumIn_175 (by omega) (fun z93 tz93 => ?_)
              refine s_istore C dX10_sumIn_176 (by decide) (Nat.le_of_ble_eq_true rfl) rfl ?_
              show WP E ad 178 [some (.ref (ad 71)), some (.int i), some (.int k), some (.int a), some (.int z88), some (.int z93), some (.int z72), some (.int d)] [] σ
              refine s_goto (tgt := 11) C dX10_sumIn_178 (by decide) ?_
              refine wp_le (lv' := [some (.ref (ad 71)), some (.int i), some (.int k), some (.int a), some (.int z88), some (.int z93), some (.int z72), none]) ⟨rfl, ⟨rfl, ⟨rfl, ⟨rfl, ⟨rfl, ⟨rfl, ⟨rfl, trivial⟩⟩⟩⟩⟩⟩⟩ ?_
              by_cases hg : z72.toInt = 0
              · exact K a z88 z93 z72 z72 (Or.inr ⟨hg, j0, f, by omega, hac, (by first | exact Or.inl (by omega) | exact Or.inr (by show ¬ (Int32.toInt (σ.1 85 (B + j0)) = 43 ∨ Int32.toInt (σ.1 85 (B + j0)) = 45); omega) | omega), hkj, hjn⟩) (by rw [if_pos hg]; omega)
              · have hj : j0 < n := by omega
                obtain ⟨f2, j2, u2, c2⟩ := ac_plus hac hj hs0 (by show Int32.toInt (σ.1 85 (B + j0)) = 43 ∨ Int32.toInt (σ.1 85 (B + j0)) = 45; omega)
                exact K a z88 z93 z72 z72 (Or.inl ⟨by omega, j0 + 1, j2, f2, by omega, u2, c2, by omega⟩) (by rw [if_neg hg]; omega)
set_option maxRecDepth 100000 in
theorem L_sumIn (l : Launch) (ad : Nat → Nat) (E : Ev) (σ : Sg) (i k : Int32) (hI : IM σ.1) (hi : 0 ≤ i.toInt ∧ i.toInt ≤ 1295) (B n k0 s0 : Nat) (o : List Bool) (hB : B + n ≤ 180) (hf : (σ.1 71 47).toInt = B + n) (hs0 : s0 = 1 ∨ s0 = 2) (C : Cx E l (rmk 3) 8 cX10_sumIn RX10) (X : Rx E ad (some .int) (oI (fun r τ => Fr [] [(71, 53)] σ τ ∧ SE (σ.1 71 0).toInt (fun q => σ.1 85 (B + q)) n s0 o k0 B (τ.1 71 53).toInt)))  : ∀ (m : Nat) (a : Int32) (b : Int32) (z : Int32) (g : Int32), ((g.toInt = 1 ∧ ∃ q0 j0 f : Nat, z.toInt = B + q0 ∧ un (σ.1 71 0).toInt (fun q => σ.1 85 (B + q)) n q0 j0 ∧ ac (σ.1 71 0).toInt (fun q => σ.1 85 (B + q)) n f s0 o j0 ∧ k0 ≤ q0) ∨ (g.toInt = 0 ∧ SE (σ.1 71 0).toInt (fun q => σ.1 85 (B + q)) n s0 o k0 B z.toInt)) → (if g.toInt = 0 then 0 else ((B + n : Int) - z.toInt).toNat + 1) < m → WP E ad 11 [some (.ref (ad 71)), some (.int i), some (.int k), some (.int a), some (.int b), some (.int z), some (.int g), none] [] σ := by
  intro m
  induction m with
  | zero => intro a b z g hh hm9; exact absurd hm9 (Nat.not_lt_zero _)
  | succ m ih =>
    intro a b z g hh hm9
    refine s_iload C dX10_sumIn_11 rfl ?_
    refine s_if_eq (tgt := 181) C dX10_sumIn_13 (by decide) (fun q1 => ?_) (fun q1 => ?_)
    · refine s_aload_n C dX10_sumIn_181 rfl ?_
      refine s_iload C dX10_sumIn_182 rfl ?_
      refine s_put (k := 53) C y71 fw_X10_286 fp_9_53 rfl dX10_sumIn_184 ?_
      refine s_iload_n C dX10_sumIn_187 rfl ?_
      exact s_iret C X dX10_sumIn_188 ⟨(Fr.sV Fr.rf (Or.inr (by decide))), (hh.elim (fun q => by omega) (fun q => q.2))⟩
    · obtain ⟨hg, q0, j0, f, hq, hu, hac, hkq⟩ := hh.resolve_right (fun q => by omega)
      have hjl := un_lt hu
      have hjn := un_le hu
      have hu2 := hu
      unfold un at hu2
      dsimp only at hu2
      have ek : Int32.toInt (σ.1 85 z.toNatClampNeg) = Int32.toInt (σ.1 85 (B + q0)) := by rw [show z.toNatClampNeg = B + q0 by unfold Int32.toNatClampNeg; omega]
      refine s_iload_n C dX10_sumIn_16 rfl ?_
      refine s_iload C dX10_sumIn_17 rfl ?_
      refine s_aload_n C dX10_sumIn_19 rfl ?_
      refine s_iload_n C dX10_sumIn_20 rfl ?_
      refine s_iload C dX10_sumIn_21 rfl ?_
      refine s_callVI (st := [.int b, .int a]) C (c_X10_unitIn l ad σ i z hI hi B n q0 j0 hB hf hq hu) cv_X10_289 y71 rfl rfl rfl ⟨by decide, by decide⟩ (Nat.le_of_ble_eq_true rfl) dX10_sumIn_23 ?_
      intro r2 τ3 h4
      obtain ⟨eh4, h4⟩ := h4; replace eh4 := eh4.symm; subst eh4
      refine s_imulU C dX10_sumIn_26 (fun z5 tz5 => ?_)
      refine s_iaddU C dX10_sumIn_27 (fun z6 tz6 => ?_)
      refine s_istore_n C dX10_sumIn_28 (by decide) (Nat.le_of_ble_eq_true rfl) rfl ?_
      show WP E ad 29 [some (.ref (ad 71)), some (.int i), some (.int k), some (.int z6), some (.int b), some (.int z), some (.int g), none] [] σ
      refine s_aload_n C dX10_sumIn_29 rfl ?_
      refine s_getr (k := 16) (j := 85) C y71 fw_X10_55 rfl dX10_sumIn_30 ?_
      refine s_iload C dX10_sumIn_33 rfl ?_
      refine s_iald (r := (σ.1 85 z.toNatClampNeg)) C y85 (by omega) rfl dX10_sumIn_35 ?_
      refine s_istore C dX10_sumIn_36 (by decide) (Nat.le_of_ble_eq_true rfl) rfl ?_
      show WP E ad 38 [some (.ref (ad 71)), some (.int i), some (.int k), some (.int z6), some (.int b), some (.int z), some (.int g), some (.int (σ.1 85 z.toNatClampNeg))] [] σ
      refine s_iload C dX10_sumIn_38 rfl ?_
      refine s_iload C dX10_sumIn_40 rfl ?_
      refine s_bipush C dX10_sumIn_42 (by decide) (fun z7 tz7 => ?_)
      refine s_icmp_ne (tgt := 51) C dX10_sumIn_44 (by decide) (fun q8 => ?_) (fun q8 => ?_)
      · refine s_iload C dX10_sumIn_51 rfl ?_
        refine s_bipush C dX10_sumIn_53 (by decide) (fun z9 tz9 => ?_)
        refine s_icmp_eq (tgt := 91) C dX10_sumIn_55 (by decide) (fun q10 => ?_) (fun q10 => ?_)
        · refine s_iconst C dX10_sumIn_91 (by decide) (fun z11 tz11 => ?_)
          refine s_goto (tgt := 96) C dX10_sumIn_92 (by decide) ?_
          refine s_iadd C dX10_sumIn_96 (by omega) (fun z12 tz12 => ?_)
          refine s_istore C dX10_sumIn_97 (by decide) (Nat.le_of_ble_eq_true rfl) rfl ?_
          show WP E ad 99 [some (.ref (ad 71)), some (.int i), some (.int k), some (.int z6), some (.int b), some (.int z12), some (.int g), some (.int (σ.1 85 z.toNatClampNeg))] [] σ
          exact E_sum99 l ad E σ i k hI hi B n k0 s0 o hB hf hs0 C X m (fun a b z g d h1 h2 => ih a b z g h1 h2) j0 f z6 b z12 g (σ.1 85 z.toNatClampNeg) (by omega) hac (by omega) hjn (by rw [if_neg (by omega)] at hm9; omega) (by rw [if_neg (by omega)] at hm9; omega)
        · refine s_iload C dX10_sumIn_58 rfl ?_
          refine s_bipush C dX10_sumIn_60 (by decide) (fun z13 tz13 => ?_)
          refine s_icmp_eq (tgt := 91) C dX10_sumIn_62 (by decide) (fun q14 => ?_) (fun q14 => ?_)
          · refine s_iconst C dX10_sumIn_91 (by decide) (fun z15 tz15 => ?_)
            refine s_goto (tgt := 96) C dX10_sumIn_92 (by decide) ?_
            refine s_iadd C dX10_sumIn_96 (by omega) (fun z16 tz16 => ?_)
            refine s_istore C dX10_sumIn_97 (by decide) (Nat.le_of_ble_eq_true rfl) rfl ?_
            show WP E ad 99 [some (.ref (ad 71)), some (.int i), some (.int k), some (.int z6), some (.int b), some (.int z16), some (.int g), some (.int (σ.1 85 z.toNatClampNeg))] [] σ
            exact E_sum99 l ad E σ i k hI hi B n k0 s0 o hB hf hs0 C X m (fun a b z g d h1 h2 => ih a b z g h1 h2) j0 f z6 b z16 g (σ.1 85 z.toNatClampNeg) (by omega) hac (by omega) hjn (by rw [if_neg (by omega)] at hm9; omega) (by rw [if_neg (by omega)] at hm9; omega)
          · refine s_iload C dX10_sumIn_65 rfl ?_
            refine s_iconst C dX10_sumIn_67 (by decide) (fun z17 tz17 => ?_)
            refine s_iadd C dX10_sumIn_68 (by omega) (fun z18 tz18 => ?_)
            refine s_aload_n C dX10_sumIn_69 rfl ?_
            refine s_get (k := 47) (x := (σ.1 71 47)) C y71 fw_X10_280 rfl rfl dX10_sumIn_70 ?_
            refine s_icmp_ge (tgt := 95) C dX10_sumIn_73 (by decide) (fun q19 => ?_) (fun q19 => ?_)
            · refine s_iconst C dX10_sumIn_95 (by decide) (fun z20 tz20 => ?_)
              refine s_iadd C dX10_sumIn_96 (by omega) (fun z21 tz21 => ?_)
              refine s_istore C dX10_sumIn_97 (by decide) (Nat.le_of_ble_eq_true rfl) rfl ?_
              show WP E ad 99 [some (.ref (ad 71)), some (.int i), some (.int k), some (.int z6), some (.int b), some (.int z21), some (.int g), some (.int (σ.1 85 z.toNatClampNeg))] [] σ
              exact E_sum99 l ad E σ i k hI hi B n k0 s0 o hB hf hs0 C X m (fun a b z g d h1 h2 => ih a b z g h1 h2) j0 f z6 b z21 g (σ.1 85 z.toNatClampNeg) (by omega) hac (by omega) hjn (by rw [if_neg (by omega)] at hm9; omega) (by rw [if_neg (by omega)] at hm9; omega)
            · refine s_aload_n C dX10_sumIn_76 rfl ?_
              refine s_getr (k := 16) (j := 85) C y71 fw_X10_55 rfl dX10_sumIn_77 ?_
              refine s_iload C dX10_sumIn_80 rfl ?_
              refine s_iconst C dX10_sumIn_82 (by decide) (fun z22 tz22 => ?_)
              refine s_iadd C dX10_sumIn_83 (by omega) (fun z23 tz23 => ?_)
              refine s_iald (r := (σ.1 85 z23.toNatClampNeg)) C y85 (by omega) rfl dX10_sumIn_84 ?_
              have ez : Int32.toInt (σ.1 85 z23.toNatClampNeg) = Int32.toInt (σ.1 85 (B + (q0 + 1))) := by rw [show z23.toNatClampNeg = B + (q0 + 1) by unfold Int32.toNatClampNeg; omega]
              refine s_callSI (st := [.int z]) C (c_X10_isFigure l ad σ ((σ.1 85 z23.toNatClampNeg)) ) cv_X10_257 rfl rfl ⟨by decide, by decide⟩ (Nat.le_of_ble_eq_true rfl) dX10_sumIn_85 ?_
              intro r24 τ25 h26
              obtain ⟨eh26, h26⟩ := h26; replace eh26 := eh26.symm; subst eh26
              refine s_if_eq (tgt := 95) C dX10_sumIn_88 (by decide) (fun q27 => ?_) (fun q27 => ?_)
              · refine s_iconst C dX10_sumIn_95 (by decide) (fun z28 tz28 => ?_)
                refine s_iadd C dX10_sumIn_96 (by omega) (fun z29 tz29 => ?_)
                refine s_istore C dX10_sumIn_97 (by decide) (Nat.le_of_ble_eq_true rfl) rfl ?_
                show WP E ad 99 [some (.ref (ad 71)), some (.int i), some (.int k), some (.int z6), some (.int b), some (.int z29), some (.int g), some (.int (σ.1 85 z.toNatClampNeg))] [] σ
                exact E_sum99 l ad E σ i k hI hi B n k0 s0 o hB hf hs0 C X m (fun a b z g d h1 h2 => ih a b z g h1 h2) j0 f z6 b z29 g (σ.1 85 z.toNatClampNeg) (by omega) hac (by omega) hjn (by rw [if_neg (by omega)] at hm9; omega) (by rw [if_neg (by omega)] at hm9; omega)
              · refine s_iconst C dX10_sumIn_91 (by decide) (fun z30 tz30 => ?_)
                refine s_goto (tgt := 96) C dX10_sumIn_92 (by decide) ?_
                refine s_iadd C dX10_sumIn_96 (by omega) (fun z31 tz31 => ?_)
                refine s_istore C dX10_sumIn_97 (by decide) (Nat.le_of_ble_eq_true rfl) rfl ?_
                show WP E ad 99 [some (.ref (ad 71)), some (.int i), some (.int k), some (.int z6), some (.int b), some (.int z31), some (.int g), some (.int (σ.1 85 z.toNatClampNeg))] [] σ
                exact E_sum99 l ad E σ i k hI hi B n k0 s0 o hB hf hs0 C X m (fun a b z g d h1 h2 => ih a b z g h1 h2) j0 f z6 b z31 g (σ.1 85 z.toNatClampNeg) (by omega) hac (by omega) hjn (by rw [if_neg (by omega)] at hm9; omega) (by rw [if_neg (by omega)] at hm9; omega)
      · refine s_iconst C dX10_sumIn_47 (by decide) (fun z32 tz32 => ?_)
        refine s_goto (tgt := 96) C dX10_sumIn_48 (by decide) ?_
        refine s_iadd C dX10_sumIn_96 (by omega) (fun z33 tz33 => ?_)
        refine s_istore C dX10_sumIn_97 (by decide) (Nat.le_of_ble_eq_true rfl) rfl ?_
        show WP E ad 99 [some (.ref (ad 71)), some (.int i), some (.int k), some (.int z6), some (.int b), some (.int z33), some (.int g), some (.int (σ.1 85 z.toNatClampNeg))] [] σ
        exact E_sum99 l ad E σ i k hI hi B n k0 s0 o hB hf hs0 C X m (fun a b z g d h1 h2 => ih a b z g h1 h2) j0 f z6 b z33 g (σ.1 85 z.toNatClampNeg) (by omega) hac (by omega) hjn (by rw [if_neg (by omega)] at hm9; omega) (by rw [if_neg (by omega)] at hm9; omega)
set_option maxRecDepth 100000 in
theorem c_X10_sumIn (l : Launch) (ad : Nat → Nat) (σ : Sg) (i k : Int32) (hI : IM σ.1) (hi : 0 ≤ i.toInt ∧ i.toInt ≤ 1295) (B n k0 s0 : Nat) (o : List Bool) (hB : B + n ≤ 180) (hf : (σ.1 71 47).toInt = B + n) (hs0 : s0 = 1 ∨ s0 = 2) (j0 f0 : Nat) (hk : k.toInt = B + k0) (hu : un (σ.1 71 0).toInt (fun q => σ.1 85 (B + q)) n k0 j0) (hac : ac (σ.1 71 0).toInt (fun q => σ.1 85 (B + q)) n f0 s0 o j0) : Mt l yX10_sumIn cX10_sumIn 8 (some .int) 3 ad σ [.ref (ad 71), .int i, .int k] (oI (fun r τ => Fr [] [(71, 53)] σ τ ∧ SE (σ.1 71 0).toInt (fun q => σ.1 85 (B + q)) n s0 o k0 B (τ.1 71 53).toInt)) := by
  refine Mt_intro (by decide +kernel) (by simp [lg_sl, Value.category]) (fun E C X => ?_)
  show WP E ad 0 [some (.ref (ad 71)), some (.int i), some (.int k), none, none, none, none, none] [] σ
  refine s_iconst C dX10_sumIn_0 (by decide) (fun z1 tz1 => ?_)
  refine s_istore_n C dX10_sumIn_1 (by decide) (Nat.le_of_ble_eq_true rfl) rfl ?_
  show WP E ad 2 [some (.ref (ad 71)), some (.int i), some (.int k), some (.int z1), none, none, none, none] [] σ
  refine s_iconst C dX10_sumIn_2 (by decide) (fun z2 tz2 => ?_)
  refine s_istore C dX10_sumIn_3 (by decide) (Nat.le_of_ble_eq_true rfl) rfl ?_
  show WP E ad 5 [some (.ref (ad 71)), some (.int i), some (.int k), some (.int z1), some (.int z2), none, none, none] [] σ
  refine s_iload_n C dX10_sumIn_5 rfl ?_
  refine s_istore C dX10_sumIn_6 (by decide) (Nat.le_of_ble_eq_true rfl) rfl ?_
  show WP E ad 8 [some (.ref (ad 71)), some (.int i), some (.int k), some (.int z1), some (.int z2), some (.int k), none, none] [] σ
  refine s_iconst C dX10_sumIn_8 (by decide) (fun z3 tz3 => ?_)
  refine s_istore C dX10_sumIn_9 (by decide) (Nat.le_of_ble_eq_true rfl) rfl ?_
  show WP E ad 11 [some (.ref (ad 71)), some (.int i), some (.int k), some (.int z1), some (.int z2), some (.int k), some (.int z3), none] [] σ
  exact L_sumIn l ad E σ i k hI hi B n k0 s0 o hB hf hs0 C X 1000 z1 z2 k z3 (Or.inl ⟨by omega, k0, j0, f0, by omega, hu, hac, Nat.le_refl _⟩) (by split <;> omega)
