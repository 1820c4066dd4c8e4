set_option maxRecDepth 100000 in
theorem L_read (l : Launch) (ad : Nat → Nat) (E : Ev) (σ : Sg) (hI : IM σ.1) (c g n0 : Int32) (hc : 0 ≤ c.toInt ∧ c.toInt ≤ 2) (hn : 0 ≤ n0.toInt ∧ n0.toInt ≤ 60) (hW : WF (σ.1 71 0).toInt (σ.1 86) n0.toInt.toNat) (C : Cx E l (rmk 4) 5 cX10_read RX10) (X : Rx E ad (some .int) (oI (fun r τ => IM τ.1 ∧ Fr [84, 85, 109] [(71, 17), (71, 49)] σ τ ∧ ((0 ≤ c.toInt ∧ c.toInt ≤ 2 → (τ.1 71 17).toInt = 0) ∧ (¬ (0 ≤ c.toInt ∧ c.toInt ≤ 2) → τ.1 71 17 = σ.1 71 17)))))  : ∀ (n : Nat) (τ : Sg) (z : Int32), (Fr [85, 109] [(71, 17), (71, 49)] σ τ) → ((τ.1 71 17).toInt = 0) → (∀ j : Nat, (j : Int) < z.toInt → τ.1 85 (60 * c.toInt.toNat + j) = σ.1 86 j) → (∀ j : Nat, ¬ (60 * c.toInt.toNat ≤ j ∧ j < 60 * c.toInt.toNat + 60) → τ.1 85 j = σ.1 85 j) → (0 ≤ z.toInt ∧ z.toInt ≤ n0.toInt) → (60 - z.toInt).toNat < n → WP E ad 36 [some (.ref (ad 71)), some (.int c), some (.int g), some (.int n0), some (.int z)] [] τ := by
  intro n
  induction n with
  | zero => intro τ z kF k17 kx ko h0 hm9; exact absurd hm9 (Nat.not_lt_zero _)
  | succ n ih =>
    intro τ z kF k17 kx ko h0 hm9
    refine s_iload C dX10_read_36 rfl ?_
    refine s_iload_n C dX10_read_38 rfl ?_
    refine s_icmp_ge (tgt := 67) C dX10_read_39 (by decide) (fun q1 => ?_) (fun q1 => ?_)
    · refine s_aload_n C dX10_read_67 rfl ?_
      refine s_getr (k := 15) (j := 84) C y71 fw_X10_52 rfl dX10_read_68 ?_
      refine s_iload_n C dX10_read_71 rfl ?_
      refine s_iload_n C dX10_read_72 rfl ?_
      refine s_iast C y84 (by omega) dX10_read_73 ?_
      refine s_iload_n C dX10_read_74 rfl ?_
      exact s_iret C X dX10_read_75 ⟨im_read hI hc hn hW kF k17 (fun j hj => kx j (by omega)) ko, (Fr.sV (Fr.tr Fr.rf (Fr.mo kF (by decide) (by decide))) (Or.inl (by decide))), ⟨fun _ => k17, fun q => absurd hc q⟩⟩
    · refine s_aload_n C dX10_read_42 rfl ?_
      refine s_getr (k := 16) (j := 85) C y71 fw_X10_55 rfl dX10_read_43 ?_
      refine s_bipush C dX10_read_46 (by decide) (fun z2 tz2 => ?_)
      refine s_iload_n C dX10_read_48 rfl ?_
      refine s_imulL C tz2 dX10_read_49 (by omega) (fun z3 tz3 => ?_)
      refine s_iload C dX10_read_50 rfl ?_
      refine s_iadd C dX10_read_52 (by omega) (fun z4 tz4 => ?_)
      refine s_aload_n C dX10_read_53 rfl ?_
      refine s_getr (k := 18) (j := 86) C y71 fw_X10_58 rfl dX10_read_54 ?_
      refine s_iload C dX10_read_57 rfl ?_
      refine s_iald (r := (τ.1 86 z.toNatClampNeg)) C y86 (by omega) rfl dX10_read_59 ?_
      refine s_iast C y85 (by omega) dX10_read_60 ?_
      refine s_iinc C dX10_read_61 rfl (by decide) rfl (by decide) (by omega) (fun z5 tz5 => ?_)
      show WP E ad 64 [some (.ref (ad 71)), some (.int c), some (.int g), some (.int n0), some (.int z5)] [] (sV τ 85 z4.toNatClampNeg (τ.1 86 z.toNatClampNeg))
      refine s_goto (tgt := 36) C dX10_read_64 (by decide) ?_
      have hi : z4.toNatClampNeg = 60 * c.toInt.toNat + z.toInt.toNat := by unfold Int32.toNatClampNeg; omega
      have hv : (τ.1 86 z.toNatClampNeg) = σ.1 86 z.toInt.toNat := by rw [kF.a 86 (by decide) (by decide)]; rfl
      exact ih (sV τ 85 z4.toNatClampNeg (τ.1 86 z.toNatClampNeg)) z5 (Fr.sV (Fr.tr Fr.rf (Fr.mo kF (by decide) (by decide))) (Or.inl (by decide))) k17 (fun j hj => by show upd (τ.1 85) z4.toNatClampNeg (τ.1 86 z.toNatClampNeg) _ = _; rw [hi]; by_cases q : j = z.toInt.toNat; (rw [q, pk_us]; exact hv); (rw [pk_un (by omega)]; exact kx j (by omega))) (fun j hj => by show upd (τ.1 85) z4.toNatClampNeg (τ.1 86 z.toNatClampNeg) _ = _; rw [hi, pk_un (by omega)]; exact ko j hj) (by omega) (by omega)
set_option maxRecDepth 100000 in
theorem c_X10_read (l : Launch) (ad : Nat → Nat) (σ : Sg) (c : Int32) (hI : IM σ.1) : Mt l yX10_read cX10_read 5 (some .int) 4 ad σ [.ref (ad 71), .int c] (oI (fun r τ => IM τ.1 ∧ Fr [84, 85, 109] [(71, 17), (71, 49)] σ τ ∧ ((0 ≤ c.toInt ∧ c.toInt ≤ 2 → (τ.1 71 17).toInt = 0) ∧ (¬ (0 ≤ c.toInt ∧ c.toInt ≤ 2) → τ.1 71 17 = σ.1 71 17)))) := by
  have htp := hI.tp
  have hpr := hI.pr
  refine Mt_intro (by decide +kernel) (by simp [lg_sl, Value.category]) (fun E C X => ?_)
  show WP E ad 0 [some (.ref (ad 71)), some (.int c), none, none, none] [] σ
  refine s_iload_n C dX10_read_0 rfl ?_
  refine s_callSI (st := []) C (c_X10_isCondition l ad σ c ) cv_X10_274 rfl rfl ⟨by decide, by decide⟩ (Nat.le_of_ble_eq_true rfl) dX10_read_1 ?_
  intro r1 τ2 h3
  obtain ⟨eh3, h3⟩ := h3; replace eh3 := eh3.symm; subst eh3
  refine s_if_ne (tgt := 9) C dX10_read_4 (by decide) (fun q4 => ?_) (fun q4 => ?_)
  · refine s_aload_n C dX10_read_9 rfl ?_
    refine s_callVI (st := []) C (c_X10_conditionFault l ad σ htp hpr) cv_X10_277 y71 rfl rfl rfl ⟨by decide, by decide⟩ (Nat.le_of_ble_eq_true rfl) dX10_read_10 ?_
    intro r5 τ6 h7
    have bh7 : -1 ≤ Int32.toInt r5 ∧ Int32.toInt r5 ≤ 70 := ⟨h7.2.1, h7.2.2.1⟩
    have fh7 : τ6.1 71 17 = σ.1 71 17 := h7.1.f 71 17 (by decide) (by decide)
    have fih7 : Int32.toInt (τ6.1 71 17) = Int32.toInt (σ.1 71 17) := by rw [fh7]
    refine s_istore_n C dX10_read_13 (by decide) (Nat.le_of_ble_eq_true rfl) rfl ?_
    show WP E ad 14 [some (.ref (ad 71)), some (.int c), some (.int r5), none, none] [] τ6
    refine s_aload_n C dX10_read_14 rfl ?_
    refine s_get (k := 17) (x := (τ6.1 71 17)) C y71 fw_X10_247 rfl rfl dX10_read_15 ?_
    refine s_istore_n C dX10_read_18 (by decide) (Nat.le_of_ble_eq_true rfl) rfl ?_
    show WP E ad 19 [some (.ref (ad 71)), some (.int c), some (.int r5), some (.int (τ6.1 71 17)), none] [] τ6
    refine s_aload_n C dX10_read_19 rfl ?_
    refine s_iconst C dX10_read_20 (by decide) (fun z8 tz8 => ?_)
    refine s_put (k := 17) C y71 fw_X10_247 fp_9_17 rfl dX10_read_21 ?_
    refine s_iload_n C dX10_read_24 rfl ?_
    refine s_if_lt (tgt := 33) C dX10_read_25 (by decide) (fun q9 => ?_) (fun q9 => ?_)
    · refine s_iconst C dX10_read_33 (by decide) (fun z10 tz10 => ?_)
      refine s_istore C dX10_read_34 (by decide) (Nat.le_of_ble_eq_true rfl) rfl ?_
      show WP E ad 36 [some (.ref (ad 71)), some (.int c), some (.int r5), some (.int (τ6.1 71 17)), some (.int z10)] [] (sV τ6 71 17 z8)
      exact L_read l ad E σ hI c r5 (τ6.1 71 17) (by omega) (by omega) (by rw [fh7]; exact h7.2.2.2 (by omega)) C X 100 (sV τ6 71 17 z8) z10 (Fr.sV (h7.1.mo (by decide) (by decide)) (Or.inr (by decide))) (by show Int32.toInt z8 = 0; omega) (fun j hj => by omega) (fun j hj => by show τ6.1 85 j = _; rw [h7.1.a 85 (by decide) (by decide)]) (by omega) (by omega)
    · refine s_bipush C dX10_read_28 (by decide) (fun z11 tz11 => ?_)
      refine s_iload_n C dX10_read_30 rfl ?_
      refine s_isub C dX10_read_31 (by omega) (fun z12 tz12 => ?_)
      exact s_iret C X dX10_read_32 ⟨(by have k : IM τ6.1 := IM.keep hI h7.1 (by decide) (by decide) (by decide); exact ⟨k.1, k.2.1, (by show 0 ≤ Int32.toInt z8 ∧ Int32.toInt z8 ≤ 60; omega), k.2.2.2.1, k.2.2.2.2.1, k.2.2.2.2.2.1, k.2.2.2.2.2.2⟩), (Fr.sV (Fr.tr Fr.rf (Fr.mo h7.1 (by decide) (by decide))) (Or.inr (by decide))), ⟨fun _ => by show Int32.toInt z8 = 0; omega, fun q => by omega⟩⟩
  · refine s_iconst C dX10_read_7 (by decide) (fun z13 tz13 => ?_)
    exact s_iret C X dX10_read_8 ⟨hI, Fr.rf, ⟨fun q => by omega, fun _ => rfl⟩⟩
