set_option maxRecDepth 100000 in
theorem c_X10_compare (l : Launch) (ad : Nat → Nat) (σ : Sg) (i k : Int32) (hI : IM σ.1) (hi : 0 ≤ i.toInt ∧ i.toInt ≤ 1295) (B n k0 f0 : Nat) (o : List Bool) (hB : B + n ≤ 180) (hf : (σ.1 71 47).toInt = B + n) (hk : k.toInt = B + k0) (hac : ac (σ.1 71 0).toInt (fun q => σ.1 85 (B + q)) n f0 0 o k0) (hch : ¬ ((σ.1 85 (B + k0)).toInt = 33 ∨ (σ.1 85 (B + k0)).toInt = 40)) : Mt l yX10_compare cX10_compare 6 (some .boolean) 4 ad σ [.ref (ad 71), .int i, .int k] (oI (fun r τ => Fr [] [(71, 53)] σ τ ∧ (r.toInt = 0 ∨ r.toInt = 1) ∧ SE (σ.1 71 0).toInt (fun q => σ.1 85 (B + q)) n 2 o k0 B (τ.1 71 53).toInt)) := by
  obtain ⟨hkn, fu, ju, uu, au⟩ := ac_unit hac hch
  refine Mt_intro (by decide +kernel) (by simp [lg_sl, Value.category]) (fun E C X => ?_)
  show WP E ad 0 [some (.ref (ad 71)), some (.int i), some (.int k), none, none, none] [] σ
  refine s_aload_n C dX10_compare_0 rfl ?_
  refine s_iload_n C dX10_compare_1 rfl ?_
  refine s_iload_n C dX10_compare_2 rfl ?_
  refine s_callVI (st := []) C (c_X10_sumIn l ad σ i k hI hi B n k0 1 o hB hf (Or.inl rfl) ju fu hk uu au) cv_X10_292 y71 rfl rfl rfl ⟨by decide, by decide⟩ (Nat.le_of_ble_eq_true rfl) dX10_compare_3 ?_
  intro r1 τ2 h3
  have e85 : τ2.1 85 = σ.1 85 := h3.1.a 85 (by decide) (by decide)
  have e0 : τ2.1 71 0 = σ.1 71 0 := h3.1.f 71 0 (by decide) (by decide)
  have e47 : τ2.1 71 47 = σ.1 71 47 := h3.1.f 71 47 (by decide) (by decide)
  have kI : IM τ2.1 := IM.keep hI h3.1 (by decide) (by decide) (by decide)
  obtain ⟨j1, f1, b1, a1, n1, k1, l1⟩ := h3.2
  obtain ⟨hj1, hsg, f2, j2, u2, a2⟩ := ac_cmp a1 n1
  refine s_istore_n C dX10_compare_6 (by decide) (Nat.le_of_ble_eq_true rfl) rfl ?_
  show WP E ad 7 [some (.ref (ad 71)), some (.int i), some (.int k), some (.int r1), none, none] [] τ2
  refine s_aload_n C dX10_compare_7 rfl ?_
  refine s_getr (k := 16) (j := 85) C y71 fw_X10_55 rfl dX10_compare_8 ?_
  refine s_aload_n C dX10_compare_11 rfl ?_
  refine s_get (k := 53) (x := (τ2.1 71 53)) C y71 fw_X10_286 rfl rfl dX10_compare_12 ?_
  refine s_iald (r := (τ2.1 85 ((τ2.1 71 53).toNatClampNeg))) C y85 (by omega) rfl dX10_compare_15 ?_
  refine s_istore C dX10_compare_16 (by decide) (Nat.le_of_ble_eq_true rfl) rfl ?_
  show WP E ad 18 [some (.ref (ad 71)), some (.int i), some (.int k), some (.int r1), some (.int (τ2.1 85 ((τ2.1 71 53).toNatClampNeg))), none] [] τ2
  refine s_aload_n C dX10_compare_18 rfl ?_
  refine s_iload_n C dX10_compare_19 rfl ?_
  refine s_aload_n C dX10_compare_20 rfl ?_
  refine s_get (k := 53) (x := (τ2.1 71 53)) C y71 fw_X10_286 rfl rfl dX10_compare_21 ?_
  refine s_iconst C dX10_compare_24 (by decide) (fun z4 tz4 => ?_)
  refine s_iadd C dX10_compare_25 (by omega) (fun z5 tz5 => ?_)
  refine s_callVI (st := []) C (c_X10_sumIn l ad τ2 i z5 kI hi B n (j1 + 1) 2 o hB (by rw [e47]; exact hf) (Or.inr rfl) j2 f2 (by omega) (by rw [e85, e0]; exact u2) (by rw [e85, e0]; exact a2)) cv_X10_292 y71 rfl rfl rfl ⟨by decide, by decide⟩ (Nat.le_of_ble_eq_true rfl) dX10_compare_26 ?_
  intro r6 τ7 h8
  have z2 := h8.2
  rw [e85, e0] at z2
  obtain ⟨j3, f3, b3, a3, n3, k3, l3⟩ := z2
  refine s_istore C dX10_compare_29 (by decide) (Nat.le_of_ble_eq_true rfl) rfl ?_
  show WP E ad 31 [some (.ref (ad 71)), some (.int i), some (.int k), some (.int r1), some (.int (τ2.1 85 ((τ2.1 71 53).toNatClampNeg))), some (.int r6)] [] τ7
  refine s_iload C dX10_compare_31 rfl ?_
  refine s_bipush C dX10_compare_33 (by decide) (fun z9 tz9 => ?_)
  refine s_icmp_ne (tgt := 52) C dX10_compare_35 (by decide) (fun q10 => ?_) (fun q10 => ?_)
  · refine s_iload C dX10_compare_52 rfl ?_
    refine s_bipush C dX10_compare_54 (by decide) (fun z11 tz11 => ?_)
    refine s_icmp_ne (tgt := 73) C dX10_compare_56 (by decide) (fun q12 => ?_) (fun q12 => ?_)
    · refine s_iload_n C dX10_compare_73 rfl ?_
      refine s_iload C dX10_compare_74 rfl ?_
      refine s_icmp_le (tgt := 83) C dX10_compare_76 (by decide) (fun q13 => ?_) (fun q13 => ?_)
      · refine s_iconst C dX10_compare_83 (by decide) (fun z14 tz14 => ?_)
        exact s_zret C (by omega) X dX10_compare_84 ⟨(Fr.tr (Fr.tr Fr.rf (Fr.mo h3.1 (by decide) (by decide))) (Fr.mo h8.1 (by decide) (by decide))), by omega, j3, f3, b3, a3, n3, by omega, l3⟩
      · refine s_iconst C dX10_compare_79 (by decide) (fun z15 tz15 => ?_)
        refine s_goto (tgt := 84) C dX10_compare_80 (by decide) ?_
        exact s_zret C (by omega) X dX10_compare_84 ⟨(Fr.tr (Fr.tr Fr.rf (Fr.mo h3.1 (by decide) (by decide))) (Fr.mo h8.1 (by decide) (by decide))), by omega, j3, f3, b3, a3, n3, by omega, l3⟩
    · refine s_iload_n C dX10_compare_59 rfl ?_
      refine s_iload C dX10_compare_60 rfl ?_
      refine s_icmp_ge (tgt := 69) C dX10_compare_62 (by decide) (fun q16 => ?_) (fun q16 => ?_)
      · refine s_iconst C dX10_compare_69 (by decide) (fun z17 tz17 => ?_)
        refine s_goto (tgt := 84) C dX10_compare_70 (by decide) ?_
        exact s_zret C (by omega) X dX10_compare_84 ⟨(Fr.tr (Fr.tr Fr.rf (Fr.mo h3.1 (by decide) (by decide))) (Fr.mo h8.1 (by decide) (by decide))), by omega, j3, f3, b3, a3, n3, by omega, l3⟩
      · refine s_iconst C dX10_compare_65 (by decide) (fun z18 tz18 => ?_)
        refine s_goto (tgt := 84) C dX10_compare_66 (by decide) ?_
        exact s_zret C (by omega) X dX10_compare_84 ⟨(Fr.tr (Fr.tr Fr.rf (Fr.mo h3.1 (by decide) (by decide))) (Fr.mo h8.1 (by decide) (by decide))), by omega, j3, f3, b3, a3, n3, by omega, l3⟩
  · refine s_iload_n C dX10_compare_38 rfl ?_
    refine s_iload C dX10_compare_39 rfl ?_
    refine s_icmp_ne (tgt := 48) C dX10_compare_41 (by decide) (fun q19 => ?_) (fun q19 => ?_)
    · refine s_iconst C dX10_compare_48 (by decide) (fun z20 tz20 => ?_)
      refine s_goto (tgt := 84) C dX10_compare_49 (by decide) ?_
      exact s_zret C (by omega) X dX10_compare_84 ⟨(Fr.tr (Fr.tr Fr.rf (Fr.mo h3.1 (by decide) (by decide))) (Fr.mo h8.1 (by decide) (by decide))), by omega, j3, f3, b3, a3, n3, by omega, l3⟩
    · refine s_iconst C dX10_compare_44 (by decide) (fun z21 tz21 => ?_)
      refine s_goto (tgt := 84) C dX10_compare_45 (by decide) ?_
      exact s_zret C (by omega) X dX10_compare_84 ⟨(Fr.tr (Fr.tr Fr.rf (Fr.mo h3.1 (by decide) (by decide))) (Fr.mo h8.1 (by decide) (by decide))), by omega, j3, f3, b3, a3, n3, by omega, l3⟩
