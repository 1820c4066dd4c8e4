def rdA (F : Int) (n : Nat) : Int := if F < 0 then (n : Int) else -100 - F
theorem tA_c (t : Nat → Int32) (n k : Nat) : (k < n ∧ tA t n k = (t k).toInt) ∨ (n ≤ k ∧ tA t n k = -1) := by
  unfold tA
  by_cases h : k < n
  · exact Or.inl ⟨h, if_pos h⟩
  · exact Or.inr ⟨by omega, if_neg h⟩
theorem bu_b (pr : Int) (t : Nat → Int32) (n k : Nat) : -2 - (k : Int) ≤ bu pr t n k ∧ (0 ≤ bu pr t n k → (k : Int) < bu pr t n k ∧ bu pr t n k ≤ n) := by
  have h0 := tA_c t n k
  have h1 := tA_c t n (k + 1)
  unfold bu
  split <;> (try split) <;> (try split) <;> (try split) <;> omega
set_option maxRecDepth 100000 in
theorem f_behindUnit (l : Launch) (ad : Nat → Nat) (σ : Sg) (k : Int32) (hk : 0 ≤ k.toInt ∧ k.toInt ≤ 61) (htp : 0 ≤ (σ.1 71 17).toInt ∧ (σ.1 71 17).toInt ≤ 60) (hpr : 1 ≤ (σ.1 71 0).toInt ∧ (σ.1 71 0).toInt ≤ 4) : Mt l yX10_behindUnit cX10_behindUnit 3 (some .int) 2 ad σ [.ref (ad 71), .int k] (oI (fun r τ => τ = σ ∧ r.toInt = bu (σ.1 71 0).toInt (σ.1 86) (σ.1 71 17).toInt.toNat k.toInt.toNat)) := by
  have ek : Int32.toInt (σ.1 86 k.toNatClampNeg) = Int32.toInt (σ.1 86 k.toInt.toNat) := rfl
  have ta0 := tA_c (σ.1 86) (σ.1 71 17).toInt.toNat k.toInt.toNat
  have ta1 := tA_c (σ.1 86) (σ.1 71 17).toInt.toNat (k.toInt.toNat + 1)
  refine Mt_intro (by decide +kernel) (by simp [lg_sl, Value.category]) (fun E C X => ?_)
  show WP E ad 0 [some (.ref (ad 71)), some (.int k), none] [] σ
  refine s_aload_n C dX10_behindUnit_0 rfl ?_
  refine s_iload_n C dX10_behindUnit_1 rfl ?_
  refine s_callVI (st := []) C (c_X10_tapeAt l ad σ k (by show 0 ≤ Int32.toInt k; omega) (by show 0 ≤ Int32.toInt (σ.1 71 17) ∧ Int32.toInt (σ.1 71 17) ≤ 60; omega)) cv_X10_254 y71 rfl rfl rfl ⟨by decide, by decide⟩ (Nat.le_of_ble_eq_true rfl) dX10_behindUnit_2 ?_
  intro r1 τ2 h3
  obtain ⟨eh3, h3⟩ := h3; replace eh3 := eh3.symm; subst eh3
  have ah3 : Int32.toInt k < Int32.toInt (σ.1 71 17) → Int32.toInt r1 = Int32.toInt (σ.1 86 k.toNatClampNeg) := fun q => congrArg Int32.toInt (h3.1 q)
  have bh3 : Int32.toInt (σ.1 71 17) ≤ Int32.toInt k → Int32.toInt r1 = -1 := h3.2
  clear h3
  refine s_istore_n C dX10_behindUnit_5 (by decide) (Nat.le_of_ble_eq_true rfl) rfl ?_
  show WP E ad 6 [some (.ref (ad 71)), some (.int k), some (.int r1)] [] σ
  refine s_iload_n C dX10_behindUnit_6 rfl ?_
  refine s_bipush C dX10_behindUnit_7 (by decide) (fun z4 tz4 => ?_)
  refine s_icmp_ne (tgt := 16) C dX10_behindUnit_9 (by decide) (fun q5 => ?_) (fun q5 => ?_)
  · refine s_iload_n C dX10_behindUnit_16 rfl ?_
    refine s_bipush C dX10_behindUnit_17 (by decide) (fun z6 tz6 => ?_)
    refine s_icmp_eq (tgt := 28) C dX10_behindUnit_19 (by decide) (fun q7 => ?_) (fun q7 => ?_)
    · refine s_aload_n C dX10_behindUnit_28 rfl ?_
      refine s_iload_n C dX10_behindUnit_29 rfl ?_
      refine s_iconst C dX10_behindUnit_30 (by decide) (fun z8 tz8 => ?_)
      refine s_iadd C dX10_behindUnit_31 (by omega) (fun z9 tz9 => ?_)
      refine s_callVI (st := []) C (c_X10_tapeAt l ad σ z9 (by show 0 ≤ Int32.toInt z9; omega) (by show 0 ≤ Int32.toInt (σ.1 71 17) ∧ Int32.toInt (σ.1 71 17) ≤ 60; omega)) cv_X10_254 y71 rfl rfl rfl ⟨by decide, by decide⟩ (Nat.le_of_ble_eq_true rfl) dX10_behindUnit_32 ?_
      intro r10 τ11 h12
      obtain ⟨eh12, h12⟩ := h12; replace eh12 := eh12.symm; subst eh12
      have ah12 : Int32.toInt z9 < Int32.toInt (σ.1 71 17) → Int32.toInt r10 = Int32.toInt (σ.1 86 z9.toNatClampNeg) := fun q => congrArg Int32.toInt (h12.1 q)
      have bh12 : Int32.toInt (σ.1 71 17) ≤ Int32.toInt z9 → Int32.toInt r10 = -1 := h12.2
      clear h12
      have ez : Int32.toInt (σ.1 86 z9.toNatClampNeg) = Int32.toInt (σ.1 86 (k.toInt.toNat + 1)) := by rw [show z9.toNatClampNeg = k.toInt.toNat + 1 by unfold Int32.toNatClampNeg; omega]
      refine s_i2l C dX10_behindUnit_35 (fun L13 tL13 => ?_)
      obtain ⟨L14, eL14⟩ : ∃ q : Int64, q = 48 := ⟨_, rfl⟩
      have tL14 : L14.toInt = 48 := by rw [eL14]; rfl
      refine s_ldc2 (v := L14) C dX10_behindUnit_36 (by rw [eL14]; exact mw 1341 (by decide +kernel) rfl) ?_
      refine s_bipush C dX10_behindUnit_39 (by decide) (fun z15 tz15 => ?_)
      refine s_aload_n C dX10_behindUnit_41 rfl ?_
      refine s_get (k := 0) (x := (σ.1 71 0)) C y71 fw_X10_9 rfl rfl dX10_behindUnit_42 ?_
      refine s_iadd C dX10_behindUnit_45 (by omega) (fun z16 tz16 => ?_)
      refine s_iconst C dX10_behindUnit_46 (by decide) (fun z17 tz17 => ?_)
      refine s_isub C dX10_behindUnit_47 (by omega) (fun z18 tz18 => ?_)
      refine s_i2l C dX10_behindUnit_48 (fun L19 tL19 => ?_)
      refine s_callSI (st := []) C (c_X10_in l ad σ L13 L14 L19 ) cv_X10_165 rfl rfl ⟨by decide, by decide⟩ (Nat.le_of_ble_eq_true rfl) dX10_behindUnit_49 ?_
      intro r20 τ21 h22
      obtain ⟨eh22, h22⟩ := h22; replace eh22 := eh22.symm; subst eh22
      refine s_if_eq (tgt := 61) C dX10_behindUnit_52 (by decide) (fun q23 => ?_) (fun q23 => ?_)
      · refine s_bipush C dX10_behindUnit_61 (by decide) (fun z24 tz24 => ?_)
        refine s_iload_n C dX10_behindUnit_63 rfl ?_
        refine s_isub C dX10_behindUnit_64 (by omega) (fun z25 tz25 => ?_)
        exact s_iret C X dX10_behindUnit_65 ⟨rfl, by unfold bu; split <;> (try split) <;> (try split) <;> (try split) <;> omega⟩
      · refine s_iload_n C dX10_behindUnit_55 rfl ?_
        refine s_iconst C dX10_behindUnit_56 (by decide) (fun z26 tz26 => ?_)
        refine s_iadd C dX10_behindUnit_57 (by omega) (fun z27 tz27 => ?_)
        refine s_goto (tgt := 65) C dX10_behindUnit_58 (by decide) ?_
        exact s_iret C X dX10_behindUnit_65 ⟨rfl, by unfold bu; split <;> (try split) <;> (try split) <;> (try split) <;> omega⟩
    · refine s_iload_n C dX10_behindUnit_22 rfl ?_
      refine s_bipush C dX10_behindUnit_23 (by decide) (fun z28 tz28 => ?_)
      refine s_icmp_ne (tgt := 66) C dX10_behindUnit_25 (by decide) (fun q29 => ?_) (fun q29 => ?_)
      · refine s_iload_n C dX10_behindUnit_66 rfl ?_
        refine s_callSI (st := []) C (c_X10_isFigure l ad σ r1 ) cv_X10_257 rfl rfl ⟨by decide, by decide⟩ (Nat.le_of_ble_eq_true rfl) dX10_behindUnit_67 ?_
        intro r30 τ31 h32
        obtain ⟨eh32, h32⟩ := h32; replace eh32 := eh32.symm; subst eh32
        refine s_if_ne (tgt := 77) C dX10_behindUnit_70 (by decide) (fun q33 => ?_) (fun q33 => ?_)
        · refine s_aload_n C dX10_behindUnit_77 rfl ?_
          refine s_iload_n C dX10_behindUnit_78 rfl ?_
          refine s_iconst C dX10_behindUnit_79 (by decide) (fun z34 tz34 => ?_)
          refine s_iadd C dX10_behindUnit_80 (by omega) (fun z35 tz35 => ?_)
          refine s_callVI (st := []) C (c_X10_tapeAt l ad σ z35 (by show 0 ≤ Int32.toInt z35; omega) (by show 0 ≤ Int32.toInt (σ.1 71 17) ∧ Int32.toInt (σ.1 71 17) ≤ 60; omega)) cv_X10_254 y71 rfl rfl rfl ⟨by decide, by decide⟩ (Nat.le_of_ble_eq_true rfl) dX10_behindUnit_81 ?_
          intro r36 τ37 h38
          obtain ⟨eh38, h38⟩ := h38; replace eh38 := eh38.symm; subst eh38
          have ah38 : Int32.toInt z35 < Int32.toInt (σ.1 71 17) → Int32.toInt r36 = Int32.toInt (σ.1 86 z35.toNatClampNeg) := fun q => congrArg Int32.toInt (h38.1 q)
          have bh38 : Int32.toInt (σ.1 71 17) ≤ Int32.toInt z35 → Int32.toInt r36 = -1 := h38.2
          clear h38
          have ez : Int32.toInt (σ.1 86 z35.toNatClampNeg) = Int32.toInt (σ.1 86 (k.toInt.toNat + 1)) := by rw [show z35.toNatClampNeg = k.toInt.toNat + 1 by unfold Int32.toNatClampNeg; omega]
          refine s_callSI (st := []) C (c_X10_isFigure l ad σ r36 ) cv_X10_257 rfl rfl ⟨by decide, by decide⟩ (Nat.le_of_ble_eq_true rfl) dX10_behindUnit_84 ?_
          intro r39 τ40 h41
          obtain ⟨eh41, h41⟩ := h41; replace eh41 := eh41.symm; subst eh41
          refine s_if_eq (tgt := 96) C dX10_behindUnit_87 (by decide) (fun q42 => ?_) (fun q42 => ?_)
          · refine s_iload_n C dX10_behindUnit_96 rfl ?_
            refine s_iconst C dX10_behindUnit_97 (by decide) (fun z43 tz43 => ?_)
            refine s_iadd C dX10_behindUnit_98 (by omega) (fun z44 tz44 => ?_)
            exact s_iret C X dX10_behindUnit_99 ⟨rfl, by unfold bu; split <;> (try split) <;> (try split) <;> (try split) <;> omega⟩
          · refine s_iload_n C dX10_behindUnit_90 rfl ?_
            refine s_iconst C dX10_behindUnit_91 (by decide) (fun z45 tz45 => ?_)
            refine s_iadd C dX10_behindUnit_92 (by omega) (fun z46 tz46 => ?_)
            refine s_goto (tgt := 99) C dX10_behindUnit_93 (by decide) ?_
            exact s_iret C X dX10_behindUnit_99 ⟨rfl, by unfold bu; split <;> (try split) <;> (try split) <;> (try split) <;> omega⟩
        · refine s_iconst C dX10_behindUnit_73 (by decide) (fun z47 tz47 => ?_)
          refine s_iload_n C dX10_behindUnit_74 rfl ?_
          refine s_isub C dX10_behindUnit_75 (by omega) (fun z48 tz48 => ?_)
          exact s_iret C X dX10_behindUnit_76 ⟨rfl, by unfold bu; split <;> (try split) <;> (try split) <;> (try split) <;> omega⟩
      · refine s_aload_n C dX10_behindUnit_28 rfl ?_
        refine s_iload_n C dX10_behindUnit_29 rfl ?_
        refine s_iconst C dX10_behindUnit_30 (by decide) (fun z49 tz49 => ?_)
        refine s_iadd C dX10_behindUnit_31 (by omega) (fun z50 tz50 => ?_)
        refine s_callVI (st := []) C (c_X10_tapeAt l ad σ z50 (by show 0 ≤ Int32.toInt z50; omega) (by show 0 ≤ Int32.toInt (σ.1 71 17) ∧ Int32.toInt (σ.1 71 17) ≤ 60; omega)) cv_X10_254 y71 rfl rfl rfl ⟨by decide, by decide⟩ (Nat.le_of_ble_eq_true rfl) dX10_behindUnit_32 ?_
        intro r51 τ52 h53
        obtain ⟨eh53, h53⟩ := h53; replace eh53 := eh53.symm; subst eh53
        have ah53 : Int32.toInt z50 < Int32.toInt (σ.1 71 17) → Int32.toInt r51 = Int32.toInt (σ.1 86 z50.toNatClampNeg) := fun q => congrArg Int32.toInt (h53.1 q)
        have bh53 : Int32.toInt (σ.1 71 17) ≤ Int32.toInt z50 → Int32.toInt r51 = -1 := h53.2
        clear h53
        have ez : Int32.toInt (σ.1 86 z50.toNatClampNeg) = Int32.toInt (σ.1 86 (k.toInt.toNat + 1)) := by rw [show z50.toNatClampNeg = k.toInt.toNat + 1 by unfold Int32.toNatClampNeg; omega]
        refine s_i2l C dX10_behindUnit_35 (fun L54 tL54 => ?_)
        obtain ⟨L55, eL55⟩ : ∃ q : Int64, q = 48 := ⟨_, rfl⟩
        have tL55 : L55.toInt = 48 := by rw [eL55]; rfl
        refine s_ldc2 (v := L55) C dX10_behindUnit_36 (by rw [eL55]; exact mw 1341 (by decide +kernel) rfl) ?_
        refine s_bipush C dX10_behindUnit_39 (by decide) (fun z56 tz56 => ?_)
        refine s_aload_n C dX10_behindUnit_41 rfl ?_
        refine s_get (k := 0) (x := (σ.1 71 0)) C y71 fw_X10_9 rfl rfl dX10_behindUnit_42 ?_
        refine s_iadd C dX10_behindUnit_45 (by omega) (fun z57 tz57 => ?_)
        refine s_iconst C dX10_behindUnit_46 (by decide) (fun z58 tz58 => ?_)
        refine s_isub C dX10_behindUnit_47 (by omega) (fun z59 tz59 => ?_)
        refine s_i2l C dX10_behindUnit_48 (fun L60 tL60 => ?_)
        refine s_callSI (st := []) C (c_X10_in l ad σ L54 L55 L60 ) cv_X10_165 rfl rfl ⟨by decide, by decide⟩ (Nat.le_of_ble_eq_true rfl) dX10_behindUnit_49 ?_
        intro r61 τ62 h63
        obtain ⟨eh63, h63⟩ := h63; replace eh63 := eh63.symm; subst eh63
        refine s_if_eq (tgt := 61) C dX10_behindUnit_52 (by decide) (fun q64 => ?_) (fun q64 => ?_)
        · refine s_bipush C dX10_behindUnit_61 (by decide) (fun z65 tz65 => ?_)
          refine s_iload_n C dX10_behindUnit_63 rfl ?_
          refine s_isub C dX10_behindUnit_64 (by omega) (fun z66 tz66 => ?_)
          exact s_iret C X dX10_behindUnit_65 ⟨rfl, by unfold bu; split <;> (try split) <;> (try split) <;> (try split) <;> omega⟩
        · refine s_iload_n C dX10_behindUnit_55 rfl ?_
          refine s_iconst C dX10_behindUnit_56 (by decide) (fun z67 tz67 => ?_)
          refine s_iadd C dX10_behindUnit_57 (by omega) (fun z68 tz68 => ?_)
          refine s_goto (tgt := 65) C dX10_behindUnit_58 (by decide) ?_
          exact s_iret C X dX10_behindUnit_65 ⟨rfl, by unfold bu; split <;> (try split) <;> (try split) <;> (try split) <;> omega⟩
  · refine s_iload_n C dX10_behindUnit_12 rfl ?_
    refine s_iconst C dX10_behindUnit_13 (by decide) (fun z69 tz69 => ?_)
    refine s_iadd C dX10_behindUnit_14 (by omega) (fun z70 tz70 => ?_)
    exact s_iret C X dX10_behindUnit_15 ⟨rfl, by unfold bu; split <;> (try split) <;> (try split) <;> (try split) <;> omega⟩
set_option maxRecDepth 100000 in
theorem L_fFault (l : Launch) (ad : Nat → Nat) (E : Ev) (σ : Sg) (htp : 0 ≤ (σ.1 71 17).toInt ∧ (σ.1 71 17).toInt ≤ 60) (hpr : 1 ≤ (σ.1 71 0).toInt ∧ (σ.1 71 0).toInt ≤ 4) (C : Cx E l (rmk 3) 4 cX10_conditionFault RX10) (X : Rx E ad (some .int) (oI (fun r τ => Fr [109] [(71, 49)] σ τ ∧ r.toInt = Au (σ.1 71 0).toInt (σ.1 86) (σ.1 71 17).toInt.toNat 0 [] 0 ∧ -1 ≤ r.toInt ∧ r.toInt ≤ 70)))  : ∀ (n : Nat) (τ : Sg) (o : List Bool) (y : Int32) (z : Int32), (Fr [109] [(71, 49)] σ τ) → ((τ.1 71 49).toInt = o.length) → (Op (τ.1 109) o) → (o.length ≤ 5) → (0 ≤ y.toInt ∧ y.toInt ≤ 3) → (0 ≤ z.toInt ∧ z.toInt ≤ (σ.1 71 17).toInt) → (Au (σ.1 71 0).toInt (σ.1 86) (σ.1 71 17).toInt.toNat y.toInt.toNat o z.toInt.toNat = Au (σ.1 71 0).toInt (σ.1 86) (σ.1 71 17).toInt.toNat 0 [] 0) → ((σ.1 71 17).toInt - z.toInt).toNat < n → WP E ad 9 [some (.ref (ad 71)), some (.int y), some (.int z), none] [] τ := by
  intro n
  induction n with
  | zero => intro τ o y z kF hd ho h5 hs hk hA hm9; exact absurd hm9 (Nat.not_lt_zero _)
  | succ n ih =>
    intro τ o y z kF hd ho h5 hs hk hA hm9
    have f17 : (τ.1 71 17).toInt = (σ.1 71 17).toInt := congrArg Int32.toInt (kF.f 71 17 (by decide) (by decide))
    have f0 : (τ.1 71 0).toInt = (σ.1 71 0).toInt := congrArg Int32.toInt (kF.f 71 0 (by decide) (by decide))
    have e86 : τ.1 86 = σ.1 86 := kF.a 86 (by decide) (by decide)
    have ec : Int32.toInt (τ.1 86 z.toNatClampNeg) = Int32.toInt (σ.1 86 z.toInt.toNat) := by rw [e86]; rfl
    refine s_iload_n C dX10_conditionFault_9 rfl ?_
    refine s_aload_n C dX10_conditionFault_10 rfl ?_
    refine s_get (k := 17) (x := (τ.1 71 17)) C y71 fw_X10_247 rfl rfl dX10_conditionFault_11 ?_
    refine s_icmp_ge (tgt := 241) C dX10_conditionFault_14 (by decide) (fun q1 => ?_) (fun q1 => ?_)
    · refine s_iload_n C dX10_conditionFault_241 rfl ?_
      refine s_iconst C dX10_conditionFault_242 (by decide) (fun z2 tz2 => ?_)
      refine s_icmp_lt (tgt := 253) C dX10_conditionFault_243 (by decide) (fun q3 => ?_) (fun q3 => ?_)
      · skip
        refine s_aload_n C dX10_conditionFault_253 rfl ?_
        refine s_get (k := 17) (x := (τ.1 71 17)) C y71 fw_X10_247 rfl rfl dX10_conditionFault_254 ?_
        refine s_goto (tgt := 261) C dX10_conditionFault_257 (by decide) ?_
        exact s_iret C X dX10_conditionFault_261 ⟨(Fr.tr Fr.rf (Fr.mo kF (by decide) (by decide))), (by have a1 := Au_end (pr := (σ.1 71 0).toInt) (t := (σ.1 86)) (n := (σ.1 71 17).toInt.toNat) (s := y.toInt.toNat) (o := o) (k := z.toInt.toNat) (by omega); first | (rw [if_pos (Or.inl (by omega))] at a1; omega) | (rw [if_pos (Or.inr (mh0.mp (by omega)))] at a1; omega) | (rw [if_neg (fun q => q.elim (fun x => by omega) (fun x => by have q9 := mh0.mpr x; omega))] at a1; omega)), by omega, by omega⟩
      · refine s_aload_n C dX10_conditionFault_246 rfl ?_
        refine s_callVI (st := []) C (c_X10_isOpen l ad τ o hd ho (by omega)) cv_X10_269 y71 rfl rfl rfl ⟨by decide, by decide⟩ (Nat.le_of_ble_eq_true rfl) dX10_conditionFault_247 ?_
        intro r4 τ5 h6
        obtain ⟨eh6, h6⟩ := h6; replace eh6 := eh6.symm; subst eh6
        have mh6 := h6.2
        refine s_if_eq (tgt := 260) C dX10_conditionFault_250 (by decide) (fun q7 => ?_) (fun q7 => ?_)
        · skip
          refine s_iconst C dX10_conditionFault_260 (by decide) (fun z8 tz8 => ?_)
          exact s_iret C X dX10_conditionFault_261 ⟨(Fr.tr Fr.rf (Fr.mo kF (by decide) (by decide))), (by have a1 := Au_end (pr := (σ.1 71 0).toInt) (t := (σ.1 86)) (n := (σ.1 71 17).toInt.toNat) (s := y.toInt.toNat) (o := o) (k := z.toInt.toNat) (by omega); first | (rw [if_pos (Or.inl (by omega))] at a1; omega) | (rw [if_pos (Or.inr (mh6.mp (by omega)))] at a1; omega) | (rw [if_neg (fun q => q.elim (fun x => by omega) (fun x => by have q9 := mh6.mpr x; omega))] at a1; omega)), by omega, by omega⟩
        · skip
          refine s_aload_n C dX10_conditionFault_253 rfl ?_
          refine s_get (k := 17) (x := (τ.1 71 17)) C y71 fw_X10_247 rfl rfl dX10_conditionFault_254 ?_
          refine s_goto (tgt := 261) C dX10_conditionFault_257 (by decide) ?_
          exact s_iret C X dX10_conditionFault_261 ⟨(Fr.tr Fr.rf (Fr.mo kF (by decide) (by decide))), (by have a1 := Au_end (pr := (σ.1 71 0).toInt) (t := (σ.1 86)) (n := (σ.1 71 17).toInt.toNat) (s := y.toInt.toNat) (o := o) (k := z.toInt.toNat) (by omega); first | (rw [if_pos (Or.inl (by omega))] at a1; omega) | (rw [if_pos (Or.inr (mh6.mp (by omega)))] at a1; omega) | (rw [if_neg (fun q => q.elim (fun x => by omega) (fun x => by have q9 := mh6.mpr x; omega))] at a1; omega)), by omega, by omega⟩
    · refine s_aload_n C dX10_conditionFault_17 rfl ?_
      refine s_getr (k := 18) (j := 86) C y71 fw_X10_58 rfl dX10_conditionFault_18 ?_
      refine s_iload_n C dX10_conditionFault_21 rfl ?_
      refine s_iald (r := (τ.1 86 z.toNatClampNeg)) C y86 (by omega) rfl dX10_conditionFault_22 ?_
      refine s_istore_n C dX10_conditionFault_23 (by decide) (Nat.le_of_ble_eq_true rfl) rfl ?_
      show WP E ad 24 [some (.ref (ad 71)), some (.int y), some (.int z), some (.int (τ.1 86 z.toNatClampNeg))] [] τ
      refine s_iload_n C dX10_conditionFault_24 rfl ?_
      refine s_if_ne (tgt := 76) C dX10_conditionFault_25 (by decide) (fun q9 => ?_) (fun q9 => ?_)
      · refine s_iload_n C dX10_conditionFault_76 rfl ?_
        refine s_if_ne (tgt := 91) C dX10_conditionFault_77 (by decide) (fun q10 => ?_) (fun q10 => ?_)
        · refine s_iload_n C dX10_conditionFault_91 rfl ?_
          refine s_bipush C dX10_conditionFault_92 (by decide) (fun z11 tz11 => ?_)
          refine s_icmp_eq (tgt := 103) C dX10_conditionFault_94 (by decide) (fun q12 => ?_) (fun q12 => ?_)
          · refine s_iload_n C dX10_conditionFault_103 rfl ?_
            refine s_iconst C dX10_conditionFault_104 (by decide) (fun z13 tz13 => ?_)
            refine s_icmp_ge (tgt := 119) C dX10_conditionFault_105 (by decide) (fun q14 => ?_) (fun q14 => ?_)
            · refine s_iload_n C dX10_conditionFault_119 rfl ?_
              refine s_bipush C dX10_conditionFault_120 (by decide) (fun z15 tz15 => ?_)
              refine s_icmp_eq (tgt := 137) C dX10_conditionFault_122 (by decide) (fun q16 => ?_) (fun q16 => ?_)
              · omega
              · refine s_iload_n C dX10_conditionFault_125 rfl ?_
                refine s_bipush C dX10_conditionFault_126 (by decide) (fun z17 tz17 => ?_)
                refine s_icmp_eq (tgt := 137) C dX10_conditionFault_128 (by decide) (fun q18 => ?_) (fun q18 => ?_)
                · omega
                · refine s_iload_n C dX10_conditionFault_131 rfl ?_
                  refine s_bipush C dX10_conditionFault_132 (by decide) (fun z19 tz19 => ?_)
                  refine s_icmp_ne (tgt := 155) C dX10_conditionFault_134 (by decide) (fun q20 => ?_) (fun q20 => ?_)
                  · refine s_iload_n C dX10_conditionFault_155 rfl ?_
                    refine s_bipush C dX10_conditionFault_156 (by decide) (fun z21 tz21 => ?_)
                    refine s_icmp_eq (tgt := 167) C dX10_conditionFault_158 (by decide) (fun q22 => ?_) (fun q22 => ?_)
                    · omega
                    · refine s_iload_n C dX10_conditionFault_161 rfl ?_
                      refine s_bipush C dX10_conditionFault_162 (by decide) (fun z23 tz23 => ?_)
                      refine s_icmp_ne (tgt := 184) C dX10_conditionFault_164 (by decide) (fun q24 => ?_) (fun q24 => ?_)
                      · refine s_iload_n C dX10_conditionFault_184 rfl ?_
                        refine s_bipush C dX10_conditionFault_185 (by decide) (fun z25 tz25 => ?_)
                        refine s_icmp_ne (tgt := 228) C dX10_conditionFault_187 (by decide) (fun q26 => ?_) (fun q26 => ?_)
                        · skip
                          refine s_iload_n C dX10_conditionFault_228 rfl ?_
                          exact s_iret C X dX10_conditionFault_229 ⟨(Fr.tr Fr.rf (Fr.mo kF (by decide) (by decide))), (by have a1 := A_else (s := y.toInt.toNat) (pr := (σ.1 71 0).toInt) (t := (σ.1 86)) (n := (σ.1 71 17).toInt.toNat) (o := o) (k := z.toInt.toNat) (by omega) (by omega) (by omega) (by omega) (by omega) (fun q => by first | (have q9 := mh6.mpr q.2.2; omega) | omega); rw [a1] at hA; omega), by omega, by omega⟩
                        · omega
                      · omega
                  · omega
            · refine s_aload_n C dX10_conditionFault_108 rfl ?_
              refine s_iload_n C dX10_conditionFault_109 rfl ?_
              refine s_iconst C dX10_conditionFault_110 (by decide) (fun z27 tz27 => ?_)
              refine s_iadd C dX10_conditionFault_111 (by omega) (fun z28 tz28 => ?_)
              refine s_callVI (st := []) C (f_behindUnit l ad τ z28 (by omega) (by omega) (by omega)) cv_X10_263 y71 rfl rfl rfl ⟨by decide, by decide⟩ (Nat.le_of_ble_eq_true rfl) dX10_conditionFault_112 ?_
              intro r29 τ30 h31
              obtain ⟨eh31, h31⟩ := h31; replace eh31 := eh31.symm; subst eh31
              have uh31 := h31
              rw [f0, f17, e86] at uh31
              have vh31 := bu_b (σ.1 71 0).toInt (σ.1 86) (σ.1 71 17).toInt.toNat z28.toInt.toNat
              skip
              refine s_istore_n C dX10_conditionFault_115 (by decide) (Nat.le_of_ble_eq_true rfl) rfl ?_
              show WP E ad 116 [some (.ref (ad 71)), some (.int y), some (.int r29), some (.int (τ.1 86 z.toNatClampNeg))] [] τ
              refine s_goto (tgt := 230) C dX10_conditionFault_116 (by decide) ?_
              refine s_iload_n C dX10_conditionFault_230 rfl ?_
              refine s_if_ge (tgt := 238) C dX10_conditionFault_231 (by decide) (fun q32 => ?_) (fun q32 => ?_)
              · refine s_goto (tgt := 9) C dX10_conditionFault_238 (by decide) ?_
                refine wp_le (lv' := [some (.ref (ad 71)), some (.int y), some (.int r29), none]) ⟨rfl, ⟨rfl, ⟨rfl, trivial⟩⟩⟩ ?_
                have ez1 : z28.toInt.toNat = z.toInt.toNat + 1 := (by omega)
                rw [ez1] at uh31 vh31
                have a1 := A_plus (s := y.toInt.toNat) (pr := (σ.1 71 0).toInt) (t := (σ.1 86)) (n := (σ.1 71 17).toInt.toNat) (o := o) (k := z.toInt.toNat) (by omega) (by omega) (by omega)
                rw [a1, Uu_ok (show bu (σ.1 71 0).toInt (σ.1 86) (σ.1 71 17).toInt.toNat (z.toInt.toNat + 1) = ((r29.toInt.toNat : Nat) : Int) by omega)] at hA
                exact ih τ o y r29 (Fr.tr Fr.rf (Fr.mo kF (by decide) (by decide))) hd ho (by omega) (by omega) (by omega) hA (by omega)
              · skip
                refine s_iconst C dX10_conditionFault_234 (by decide) (fun z33 tz33 => ?_)
                refine s_iload_n C dX10_conditionFault_235 rfl ?_
                refine s_isub C dX10_conditionFault_236 (by omega) (fun z34 tz34 => ?_)
                exact s_iret C X dX10_conditionFault_237 ⟨(Fr.tr Fr.rf (Fr.mo kF (by decide) (by decide))), (by have ez1 : z28.toInt.toNat = z.toInt.toNat + 1 := (by omega); rw [ez1] at uh31 vh31; have a1 := A_plus (s := y.toInt.toNat) (pr := (σ.1 71 0).toInt) (t := (σ.1 86)) (n := (σ.1 71 17).toInt.toNat) (o := o) (k := z.toInt.toNat) (by omega) (by omega) (by omega); rw [a1, Uu_no (show bu (σ.1 71 0).toInt (σ.1 86) (σ.1 71 17).toInt.toNat (z.toInt.toNat + 1) = -1 - ((z34.toInt.toNat : Nat) : Int) by omega)] at hA; omega), by omega, by omega⟩
          · refine s_iload_n C dX10_conditionFault_97 rfl ?_
            refine s_bipush C dX10_conditionFault_98 (by decide) (fun z35 tz35 => ?_)
            refine s_icmp_ne (tgt := 119) C dX10_conditionFault_100 (by decide) (fun q36 => ?_) (fun q36 => ?_)
            · refine s_iload_n C dX10_conditionFault_119 rfl ?_
              refine s_bipush C dX10_conditionFault_120 (by decide) (fun z37 tz37 => ?_)
              refine s_icmp_eq (tgt := 137) C dX10_conditionFault_122 (by decide) (fun q38 => ?_) (fun q38 => ?_)
              · refine s_iload_n C dX10_conditionFault_137 rfl ?_
                refine s_iconst C dX10_conditionFault_138 (by decide) (fun z39 tz39 => ?_)
                refine s_icmp_ne (tgt := 155) C dX10_conditionFault_139 (by decide) (fun q40 => ?_) (fun q40 => ?_)
                · refine s_iload_n C dX10_conditionFault_155 rfl ?_
                  refine s_bipush C dX10_conditionFault_156 (by decide) (fun z41 tz41 => ?_)
                  refine s_icmp_eq (tgt := 167) C dX10_conditionFault_158 (by decide) (fun q42 => ?_) (fun q42 => ?_)
                  · omega
                  · refine s_iload_n C dX10_conditionFault_161 rfl ?_
                    refine s_bipush C dX10_conditionFault_162 (by decide) (fun z43 tz43 => ?_)
                    refine s_icmp_ne (tgt := 184) C dX10_conditionFault_164 (by decide) (fun q44 => ?_) (fun q44 => ?_)
                    · refine s_iload_n C dX10_conditionFault_184 rfl ?_
                      refine s_bipush C dX10_conditionFault_185 (by decide) (fun z45 tz45 => ?_)
                      refine s_icmp_ne (tgt := 228) C dX10_conditionFault_187 (by decide) (fun q46 => ?_) (fun q46 => ?_)
                      · skip
                        refine s_iload_n C dX10_conditionFault_228 rfl ?_
                        exact s_iret C X dX10_conditionFault_229 ⟨(Fr.tr Fr.rf (Fr.mo kF (by decide) (by decide))), (by have a1 := A_else (s := y.toInt.toNat) (pr := (σ.1 71 0).toInt) (t := (σ.1 86)) (n := (σ.1 71 17).toInt.toNat) (o := o) (k := z.toInt.toNat) (by omega) (by omega) (by omega) (by omega) (by omega) (fun q => by first | (have q9 := mh6.mpr q.2.2; omega) | omega); rw [a1] at hA; omega), by omega, by omega⟩
                      · omega
                    · omega
                · refine s_aload_n C dX10_conditionFault_142 rfl ?_
                  refine s_iload_n C dX10_conditionFault_143 rfl ?_
                  refine s_iconst C dX10_conditionFault_144 (by decide) (fun z47 tz47 => ?_)
                  refine s_iadd C dX10_conditionFault_145 (by omega) (fun z48 tz48 => ?_)
                  refine s_callVI (st := []) C (f_behindUnit l ad τ z48 (by omega) (by omega) (by omega)) cv_X10_263 y71 rfl rfl rfl ⟨by decide, by decide⟩ (Nat.le_of_ble_eq_true rfl) dX10_conditionFault_146 ?_
                  intro r49 τ50 h51
                  obtain ⟨eh51, h51⟩ := h51; replace eh51 := eh51.symm; subst eh51
                  have uh51 := h51
                  rw [f0, f17, e86] at uh51
                  have vh51 := bu_b (σ.1 71 0).toInt (σ.1 86) (σ.1 71 17).toInt.toNat z48.toInt.toNat
                  skip
                  refine s_istore_n C dX10_conditionFault_149 (by decide) (Nat.le_of_ble_eq_true rfl) rfl ?_
                  show WP E ad 150 [some (.ref (ad 71)), some (.int y), some (.int r49), some (.int (τ.1 86 z.toNatClampNeg))] [] τ
                  refine s_iconst C dX10_conditionFault_150 (by decide) (fun z52 tz52 => ?_)
                  refine s_istore_n C dX10_conditionFault_151 (by decide) (Nat.le_of_ble_eq_true rfl) rfl ?_
                  show WP E ad 152 [some (.ref (ad 71)), some (.int z52), some (.int r49), some (.int (τ.1 86 z.toNatClampNeg))] [] τ
                  refine s_goto (tgt := 230) C dX10_conditionFault_152 (by decide) ?_
                  refine s_iload_n C dX10_conditionFault_230 rfl ?_
                  refine s_if_ge (tgt := 238) C dX10_conditionFault_231 (by decide) (fun q53 => ?_) (fun q53 => ?_)
                  · refine s_goto (tgt := 9) C dX10_conditionFault_238 (by decide) ?_
                    refine wp_le (lv' := [some (.ref (ad 71)), some (.int z52), some (.int r49), none]) ⟨rfl, ⟨rfl, ⟨rfl, trivial⟩⟩⟩ ?_
                    have ez1 : z48.toInt.toNat = z.toInt.toNat + 1 := (by omega)
                    rw [ez1] at uh51 vh51
                    have a1 := A_rel (pr := (σ.1 71 0).toInt) (t := (σ.1 86)) (n := (σ.1 71 17).toInt.toNat) (o := o) (k := z.toInt.toNat) (by omega) (by omega)
                    rw [show y.toInt.toNat = 1 by omega, a1, Uu_ok (show bu (σ.1 71 0).toInt (σ.1 86) (σ.1 71 17).toInt.toNat (z.toInt.toNat + 1) = ((r49.toInt.toNat : Nat) : Int) by omega)] at hA
                    exact ih τ o z52 r49 (Fr.tr Fr.rf (Fr.mo kF (by decide) (by decide))) hd ho (by omega) (by omega) (by omega) (by rw [show z52.toInt.toNat = 2 by omega]; exact hA) (by omega)
                  · skip
                    refine s_iconst C dX10_conditionFault_234 (by decide) (fun z54 tz54 => ?_)
                    refine s_iload_n C dX10_conditionFault_235 rfl ?_
                    refine s_isub C dX10_conditionFault_236 (by omega) (fun z55 tz55 => ?_)
                    exact s_iret C X dX10_conditionFault_237 ⟨(Fr.tr Fr.rf (Fr.mo kF (by decide) (by decide))), (by have ez1 : z48.toInt.toNat = z.toInt.toNat + 1 := (by omega); rw [ez1] at uh51 vh51; have a1 := A_rel (pr := (σ.1 71 0).toInt) (t := (σ.1 86)) (n := (σ.1 71 17).toInt.toNat) (o := o) (k := z.toInt.toNat) (by omega) (by omega); rw [show y.toInt.toNat = 1 by omega, a1, Uu_no (show bu (σ.1 71 0).toInt (σ.1 86) (σ.1 71 17).toInt.toNat (z.toInt.toNat + 1) = -1 - ((z55.toInt.toNat : Nat) : Int) by omega)] at hA; omega), by omega, by omega⟩
              · refine s_iload_n C dX10_conditionFault_125 rfl ?_
                refine s_bipush C dX10_conditionFault_126 (by decide) (fun z56 tz56 => ?_)
                refine s_icmp_eq (tgt := 137) C dX10_conditionFault_128 (by decide) (fun q57 => ?_) (fun q57 => ?_)
                · refine s_iload_n C dX10_conditionFault_137 rfl ?_
                  refine s_iconst C dX10_conditionFault_138 (by decide) (fun z58 tz58 => ?_)
                  refine s_icmp_ne (tgt := 155) C dX10_conditionFault_139 (by decide) (fun q59 => ?_) (fun q59 => ?_)
                  · refine s_iload_n C dX10_conditionFault_155 rfl ?_
                    refine s_bipush C dX10_conditionFault_156 (by decide) (fun z60 tz60 => ?_)
                    refine s_icmp_eq (tgt := 167) C dX10_conditionFault_158 (by decide) (fun q61 => ?_) (fun q61 => ?_)
                    · omega
                    · refine s_iload_n C dX10_conditionFault_161 rfl ?_
                      refine s_bipush C dX10_conditionFault_162 (by decide) (fun z62 tz62 => ?_)
                      refine s_icmp_ne (tgt := 184) C dX10_conditionFault_164 (by decide) (fun q63 => ?_) (fun q63 => ?_)
                      · refine s_iload_n C dX10_conditionFault_184 rfl ?_
                        refine s_bipush C dX10_conditionFault_185 (by decide) (fun z64 tz64 => ?_)
                        refine s_icmp_ne (tgt := 228) C dX10_conditionFault_187 (by decide) (fun q65 => ?_) (fun q65 => ?_)
                        · skip
                          refine s_iload_n C dX10_conditionFault_228 rfl ?_
                          exact s_iret C X dX10_conditionFault_229 ⟨(Fr.tr Fr.rf (Fr.mo kF (by decide) (by decide))), (by have a1 := A_else (s := y.toInt.toNat) (pr := (σ.1 71 0).toInt) (t := (σ.1 86)) (n := (σ.1 71 17).toInt.toNat) (o := o) (k := z.toInt.toNat) (by omega) (by omega) (by omega) (by omega) (by omega) (fun q => by first | (have q9 := mh6.mpr q.2.2; omega) | omega); rw [a1] at hA; omega), by omega, by omega⟩
                        · omega
                      · omega
                  · refine s_aload_n C dX10_conditionFault_142 rfl ?_
                    refine s_iload_n C dX10_conditionFault_143 rfl ?_
                    refine s_iconst C dX10_conditionFault_144 (by decide) (fun z66 tz66 => ?_)
                    refine s_iadd C dX10_conditionFault_145 (by omega) (fun z67 tz67 => ?_)
                    refine s_callVI (st := []) C (f_behindUnit l ad τ z67 (by omega) (by omega) (by omega)) cv_X10_263 y71 rfl rfl rfl ⟨by decide, by decide⟩ (Nat.le_of_ble_eq_true rfl) dX10_conditionFault_146 ?_
                    intro r68 τ69 h70
                    obtain ⟨eh70, h70⟩ := h70; replace eh70 := eh70.symm; subst eh70
                    have uh70 := h70
                    rw [f0, f17, e86] at uh70
                    have vh70 := bu_b (σ.1 71 0).toInt (σ.1 86) (σ.1 71 17).toInt.toNat z67.toInt.toNat
                    skip
                    refine s_istore_n C dX10_conditionFault_149 (by decide) (Nat.le_of_ble_eq_true rfl) rfl ?_
                    show WP E ad 150 [some (.ref (ad 71)), some (.int y), some (.int r68), some (.int (τ.1 86 z.toNatClampNeg))] [] τ
                    refine s_iconst C dX10_conditionFault_150 (by decide) (fun z71 tz71 => ?_)
                    refine s_istore_n C dX10_conditionFault_151 (by decide) (Nat.le_of_ble_eq_true rfl) rfl ?_
                    show WP E ad 152 [some (.ref (ad 71)), some (.int z71), some (.int r68), some (.int (τ.1 86 z.toNatClampNeg))] [] τ
                    refine s_goto (tgt := 230) C dX10_conditionFault_152 (by decide) ?_
                    refine s_iload_n C dX10_conditionFault_230 rfl ?_
                    refine s_if_ge (tgt := 238) C dX10_conditionFault_231 (by decide) (fun q72 => ?_) (fun q72 => ?_)
                    · refine s_goto (tgt := 9) C dX10_conditionFault_238 (by decide) ?_
                      refine wp_le (lv' := [some (.ref (ad 71)), some (.int z71), some (.int r68), none]) ⟨rfl, ⟨rfl, ⟨rfl, trivial⟩⟩⟩ ?_
                      have ez1 : z67.toInt.toNat = z.toInt.toNat + 1 := (by omega)
                      rw [ez1] at uh70 vh70
                      have a1 := A_rel (pr := (σ.1 71 0).toInt) (t := (σ.1 86)) (n := (σ.1 71 17).toInt.toNat) (o := o) (k := z.toInt.toNat) (by omega) (by omega)
                      rw [show y.toInt.toNat = 1 by omega, a1, Uu_ok (show bu (σ.1 71 0).toInt (σ.1 86) (σ.1 71 17).toInt.toNat (z.toInt.toNat + 1) = ((r68.toInt.toNat : Nat) : Int) by omega)] at hA
                      exact ih τ o z71 r68 (Fr.tr Fr.rf (Fr.mo kF (by decide) (by decide))) hd ho (by omega) (by omega) (by omega) (by rw [show z71.toInt.toNat = 2 by omega]; exact hA) (by omega)
                    · skip
                      refine s_iconst C dX10_conditionFault_234 (by decide) (fun z73 tz73 => ?_)
                      refine s_iload_n C dX10_conditionFault_235 rfl ?_
                      refine s_isub C dX10_conditionFault_236 (by omega) (fun z74 tz74 => ?_)
                      exact s_iret C X dX10_conditionFault_237 ⟨(Fr.tr Fr.rf (Fr.mo kF (by decide) (by decide))), (by have ez1 : z67.toInt.toNat = z.toInt.toNat + 1 := (by omega); rw [ez1] at uh70 vh70; have a1 := A_rel (pr := (σ.1 71 0).toInt) (t := (σ.1 86)) (n := (σ.1 71 17).toInt.toNat) (o := o) (k := z.toInt.toNat) (by omega) (by omega); rw [show y.toInt.toNat = 1 by omega, a1, Uu_no (show bu (σ.1 71 0).toInt (σ.1 86) (σ.1 71 17).toInt.toNat (z.toInt.toNat + 1) = -1 - ((z74.toInt.toNat : Nat) : Int) by omega)] at hA; omega), by omega, by omega⟩
                · refine s_iload_n C dX10_conditionFault_131 rfl ?_
                  refine s_bipush C dX10_conditionFault_132 (by decide) (fun z75 tz75 => ?_)
                  refine s_icmp_ne (tgt := 155) C dX10_conditionFault_134 (by decide) (fun q76 => ?_) (fun q76 => ?_)
                  · refine s_iload_n C dX10_conditionFault_155 rfl ?_
                    refine s_bipush C dX10_conditionFault_156 (by decide) (fun z77 tz77 => ?_)
                    refine s_icmp_eq (tgt := 167) C dX10_conditionFault_158 (by decide) (fun q78 => ?_) (fun q78 => ?_)
                    · refine s_iload_n C dX10_conditionFault_167 rfl ?_
                      refine s_iconst C dX10_conditionFault_168 (by decide) (fun z79 tz79 => ?_)
                      refine s_icmp_le (tgt := 184) C dX10_conditionFault_169 (by decide) (fun q80 => ?_) (fun q80 => ?_)
                      · refine s_iload_n C dX10_conditionFault_184 rfl ?_
                        refine s_bipush C dX10_conditionFault_185 (by decide) (fun z81 tz81 => ?_)
                        refine s_icmp_ne (tgt := 228) C dX10_conditionFault_187 (by decide) (fun q82 => ?_) (fun q82 => ?_)
                        · skip
                          refine s_iload_n C dX10_conditionFault_228 rfl ?_
                          exact s_iret C X dX10_conditionFault_229 ⟨(Fr.tr Fr.rf (Fr.mo kF (by decide) (by decide))), (by have a1 := A_else (s := y.toInt.toNat) (pr := (σ.1 71 0).toInt) (t := (σ.1 86)) (n := (σ.1 71 17).toInt.toNat) (o := o) (k := z.toInt.toNat) (by omega) (by omega) (by omega) (by omega) (by omega) (fun q => by first | (have q9 := mh6.mpr q.2.2; omega) | omega); rw [a1] at hA; omega), by omega, by omega⟩
                        · omega
                      · refine s_aload_n C dX10_conditionFault_172 rfl ?_
                        refine s_callVV (st := []) C (c_X10_testEnds l ad τ o hd ho (by omega)) cv_X10_266 y71 rfl rfl rfl ⟨by decide, by decide⟩ (Nat.le_of_ble_eq_true rfl) dX10_conditionFault_173 ?_
                        intro τ84 h85
                        have dτ84 : Int32.toInt (τ84.1 71 49) = (te o).length := h85.2
                        have pτ84 : Op (τ84.1 109) (te o) := by rw [h85.1.a 109 (by decide) (by decide)]; exact Op_te o ho
                        have qτ84 := te_len o
                        skip
                        refine s_iconst C dX10_conditionFault_176 (by decide) (fun z86 tz86 => ?_)
                        refine s_istore_n C dX10_conditionFault_177 (by decide) (Nat.le_of_ble_eq_true rfl) rfl ?_
                        show WP E ad 178 [some (.ref (ad 71)), some (.int z86), some (.int z), some (.int (τ.1 86 z.toNatClampNeg))] [] τ84
                        refine s_iinc C dX10_conditionFault_178 rfl (by decide) rfl (by decide) (by omega) (fun z87 tz87 => ?_)
                        show WP E ad 181 [some (.ref (ad 71)), some (.int z86), some (.int z87), some (.int (τ.1 86 z.toNatClampNeg))] [] τ84
                        refine s_goto (tgt := 230) C dX10_conditionFault_181 (by decide) ?_
                        refine s_iload_n C dX10_conditionFault_230 rfl ?_
                        refine s_if_ge (tgt := 238) C dX10_conditionFault_231 (by decide) (fun q88 => ?_) (fun q88 => ?_)
                        · refine s_goto (tgt := 9) C dX10_conditionFault_238 (by decide) ?_
                          refine wp_le (lv' := [some (.ref (ad 71)), some (.int z86), some (.int z87), none]) ⟨rfl, ⟨rfl, ⟨rfl, trivial⟩⟩⟩ ?_
                          have a1 := A_amp (s := y.toInt.toNat) (pr := (σ.1 71 0).toInt) (t := (σ.1 86)) (n := (σ.1 71 17).toInt.toNat) (o := o) (k := z.toInt.toNat) (by omega) (by omega) (by omega)
                          rw [a1] at hA
                          have ek1 : z87.toInt.toNat = z.toInt.toNat + 1 := by omega
                          exact ih τ84 (te o) z86 z87 (Fr.tr (Fr.tr Fr.rf (Fr.mo kF (by decide) (by decide))) (Fr.mo h85.1 (by decide) (by decide))) dτ84 pτ84 (by omega) (by omega) (by omega) (by rw [ek1, show z86.toInt.toNat = 0 by omega]; exact hA) (by omega)
                        · skip
                          refine s_iconst C dX10_conditionFault_234 (by decide) (fun z89 tz89 => ?_)
                          refine s_iload_n C dX10_conditionFault_235 rfl ?_
                          refine s_isub C dX10_conditionFault_236 (by omega) (fun z90 tz90 => ?_)
                          exact s_iret C X dX10_conditionFault_237 ⟨(Fr.tr (Fr.tr Fr.rf (Fr.mo kF (by decide) (by decide))) (Fr.mo h85.1 (by decide) (by decide))), (by omega), by omega, by omega⟩
                    · refine s_iload_n C dX10_conditionFault_161 rfl ?_
                      refine s_bipush C dX10_conditionFault_162 (by decide) (fun z91 tz91 => ?_)
                      refine s_icmp_ne (tgt := 184) C dX10_conditionFault_164 (by decide) (fun q92 => ?_) (fun q92 => ?_)
                      · refine s_iload_n C dX10_conditionFault_184 rfl ?_
                        refine s_bipush C dX10_conditionFault_185 (by decide) (fun z93 tz93 => ?_)
                        refine s_icmp_ne (tgt := 228) C dX10_conditionFault_187 (by decide) (fun q94 => ?_) (fun q94 => ?_)
                        · skip
                          refine s_iload_n C dX10_conditionFault_228 rfl ?_
                          exact s_iret C X dX10_conditionFault_229 ⟨(Fr.tr Fr.rf (Fr.mo kF (by decide) (by decide))), (by have a1 := A_else (s := y.toInt.toNat) (pr := (σ.1 71 0).toInt) (t := (σ.1 86)) (n := (σ.1 71 17).toInt.toNat) (o := o) (k := z.toInt.toNat) (by omega) (by omega) (by omega) (by omega) (by omega) (fun q => by first | (have q9 := mh6.mpr q.2.2; omega) | omega); rw [a1] at hA; omega), by omega, by omega⟩
                        · refine s_iload_n C dX10_conditionFault_190 rfl ?_
                          refine s_iconst C dX10_conditionFault_191 (by decide) (fun z95 tz95 => ?_)
                          refine s_icmp_le (tgt := 228) C dX10_conditionFault_192 (by decide) (fun q96 => ?_) (fun q96 => ?_)
                          · skip
                            refine s_iload_n C dX10_conditionFault_228 rfl ?_
                            exact s_iret C X dX10_conditionFault_229 ⟨(Fr.tr Fr.rf (Fr.mo kF (by decide) (by decide))), (by have a1 := A_else (s := y.toInt.toNat) (pr := (σ.1 71 0).toInt) (t := (σ.1 86)) (n := (σ.1 71 17).toInt.toNat) (o := o) (k := z.toInt.toNat) (by omega) (by omega) (by omega) (by omega) (by omega) (fun q => by first | (have q9 := mh6.mpr q.2.2; omega) | omega); rw [a1] at hA; omega), by omega, by omega⟩
                          · refine s_aload_n C dX10_conditionFault_195 rfl ?_
                            refine s_callVI (st := []) C (c_X10_isOpen l ad τ o hd ho (by omega)) cv_X10_269 y71 rfl rfl rfl ⟨by decide, by decide⟩ (Nat.le_of_ble_eq_true rfl) dX10_conditionFault_196 ?_
                            intro r97 τ98 h99
                            obtain ⟨eh99, h99⟩ := h99; replace eh99 := eh99.symm; subst eh99
                            have mh99 := h99.2
                            refine s_if_eq (tgt := 228) C dX10_conditionFault_199 (by decide) (fun q100 => ?_) (fun q100 => ?_)
                            · skip
                              refine s_iload_n C dX10_conditionFault_228 rfl ?_
                              exact s_iret C X dX10_conditionFault_229 ⟨(Fr.tr Fr.rf (Fr.mo kF (by decide) (by decide))), (by have a1 := A_else (s := y.toInt.toNat) (pr := (σ.1 71 0).toInt) (t := (σ.1 86)) (n := (σ.1 71 17).toInt.toNat) (o := o) (k := z.toInt.toNat) (by omega) (by omega) (by omega) (by omega) (by omega) (fun q => by first | (have q9 := mh99.mpr q.2.2; omega) | omega); rw [a1] at hA; omega), by omega, by omega⟩
                            · refine s_aload_n C dX10_conditionFault_202 rfl ?_
                              refine s_callVV (st := []) C (c_X10_testEnds l ad τ o hd ho (by omega)) cv_X10_266 y71 rfl rfl rfl ⟨by decide, by decide⟩ (Nat.le_of_ble_eq_true rfl) dX10_conditionFault_203 ?_
                              intro τ102 h103
                              have dτ102 : Int32.toInt (τ102.1 71 49) = (te o).length := h103.2
                              have pτ102 : Op (τ102.1 109) (te o) := by rw [h103.1.a 109 (by decide) (by decide)]; exact Op_te o ho
                              have qτ102 := te_len o
                              obtain ⟨r6, hr6⟩ := te_hd (mh99.mp (by omega))
                              have hl6 : 1 ≤ (te o).length := by rw [hr6]; simp
                              refine s_aload_n C dX10_conditionFault_206 rfl ?_
                              refine s_dup C dX10_conditionFault_207 rfl ?_
                              refine s_get (k := 49) (x := (τ102.1 71 49)) C y71 fw_X10_260 rfl rfl dX10_conditionFault_208 ?_
                              refine s_iconst C dX10_conditionFault_211 (by decide) (fun z104 tz104 => ?_)
                              refine s_isub C dX10_conditionFault_212 (by omega) (fun z105 tz105 => ?_)
                              refine s_put (k := 49) C y71 fw_X10_260 fp_9_49 rfl dX10_conditionFault_213 ?_
                              refine s_aload_n C dX10_conditionFault_216 rfl ?_
                              refine s_callVV (st := []) C (c_X10_testEnds l ad (sV τ102 71 49 z105) (te o).tail (by show Int32.toInt z105 = _; rw [List.length_tail]; omega) (Op_tail _ pτ102) (by rw [List.length_tail]; omega)) cv_X10_266 y71 rfl rfl rfl ⟨by decide, by decide⟩ (Nat.le_of_ble_eq_true rfl) dX10_conditionFault_217 ?_
                              intro τ107 h108
                              have dτ107 : Int32.toInt (τ107.1 71 49) = (te (te o).tail).length := h108.2
                              have pτ107 : Op (τ107.1 109) (te (te o).tail) := by rw [h108.1.a 109 (by decide) (by decide)]; exact Op_te _ (Op_tail _ pτ102)
                              have qτ107 := te_len (te o).tail
                              have qqτ107 : (te o).tail.length = (te o).length - 1 := List.length_tail
                              skip
                              refine s_iconst C dX10_conditionFault_220 (by decide) (fun z109 tz109 => ?_)
                              refine s_istore_n C dX10_conditionFault_221 (by decide) (Nat.le_of_ble_eq_true rfl) rfl ?_
                              show WP E ad 222 [some (.ref (ad 71)), some (.int z109), some (.int z), some (.int (τ.1 86 z.toNatClampNeg))] [] τ107
                              refine s_iinc C dX10_conditionFault_222 rfl (by decide) rfl (by decide) (by omega) (fun z110 tz110 => ?_)
                              show WP E ad 225 [some (.ref (ad 71)), some (.int z109), some (.int z110), some (.int (τ.1 86 z.toNatClampNeg))] [] τ107
                              refine s_goto (tgt := 230) C dX10_conditionFault_225 (by decide) ?_
                              refine s_iload_n C dX10_conditionFault_230 rfl ?_
                              refine s_if_ge (tgt := 238) C dX10_conditionFault_231 (by decide) (fun q111 => ?_) (fun q111 => ?_)
                              · refine s_goto (tgt := 9) C dX10_conditionFault_238 (by decide) ?_
                                refine wp_le (lv' := [some (.ref (ad 71)), some (.int z109), some (.int z110), none]) ⟨rfl, ⟨rfl, ⟨rfl, trivial⟩⟩⟩ ?_
                                have a1 := A_cls (s := y.toInt.toNat) (pr := (σ.1 71 0).toInt) (t := (σ.1 86)) (n := (σ.1 71 17).toInt.toNat) (o := o) (k := z.toInt.toNat) (by omega) (by omega) (by omega) (mh99.mp (by omega))
                                rw [a1] at hA
                                have ek1 : z110.toInt.toNat = z.toInt.toNat + 1 := by omega
                                exact ih τ107 (te (te o).tail) z109 z110 (Fr.tr (Fr.sV (Fr.tr (Fr.tr Fr.rf (Fr.mo kF (by decide) (by decide))) (Fr.mo h103.1 (by decide) (by decide))) (Or.inr (by decide))) (Fr.mo h108.1 (by decide) (by decide))) dτ107 pτ107 (by omega) (by omega) (by omega) (by rw [ek1, show z109.toInt.toNat = 3 by omega]; exact hA) (by omega)
                              · skip
                                refine s_iconst C dX10_conditionFault_234 (by decide) (fun z112 tz112 => ?_)
                                refine s_iload_n C dX10_conditionFault_235 rfl ?_
                                refine s_isub C dX10_conditionFault_236 (by omega) (fun z113 tz113 => ?_)
                                exact s_iret C X dX10_conditionFault_237 ⟨(Fr.tr (Fr.sV (Fr.tr (Fr.tr Fr.rf (Fr.mo kF (by decide) (by decide))) (Fr.mo h103.1 (by decide) (by decide))) (Or.inr (by decide))) (Fr.mo h108.1 (by decide) (by decide))), (by omega), by omega, by omega⟩
                      · refine s_iload_n C dX10_conditionFault_167 rfl ?_
                        refine s_iconst C dX10_conditionFault_168 (by decide) (fun z114 tz114 => ?_)
                        refine s_icmp_le (tgt := 184) C dX10_conditionFault_169 (by decide) (fun q115 => ?_) (fun q115 => ?_)
                        · refine s_iload_n C dX10_conditionFault_184 rfl ?_
                          refine s_bipush C dX10_conditionFault_185 (by decide) (fun z116 tz116 => ?_)
                          refine s_icmp_ne (tgt := 228) C dX10_conditionFault_187 (by decide) (fun q117 => ?_) (fun q117 => ?_)
                          · skip
                            refine s_iload_n C dX10_conditionFault_228 rfl ?_
                            exact s_iret C X dX10_conditionFault_229 ⟨(Fr.tr Fr.rf (Fr.mo kF (by decide) (by decide))), (by have a1 := A_else (s := y.toInt.toNat) (pr := (σ.1 71 0).toInt) (t := (σ.1 86)) (n := (σ.1 71 17).toInt.toNat) (o := o) (k := z.toInt.toNat) (by omega) (by omega) (by omega) (by omega) (by omega) (fun q => by first | (have q9 := mh99.mpr q.2.2; omega) | omega); rw [a1] at hA; omega), by omega, by omega⟩
                          · omega
                        · refine s_aload_n C dX10_conditionFault_172 rfl ?_
                          refine s_callVV (st := []) C (c_X10_testEnds l ad τ o hd ho (by omega)) cv_X10_266 y71 rfl rfl rfl ⟨by decide, by decide⟩ (Nat.le_of_ble_eq_true rfl) dX10_conditionFault_173 ?_
                          intro τ119 h120
                          have dτ119 : Int32.toInt (τ119.1 71 49) = (te o).length := h120.2
                          have pτ119 : Op (τ119.1 109) (te o) := by rw [h120.1.a 109 (by decide) (by decide)]; exact Op_te o ho
                          have qτ119 := te_len o
                          skip
                          refine s_iconst C dX10_conditionFault_176 (by decide) (fun z121 tz121 => ?_)
                          refine s_istore_n C dX10_conditionFault_177 (by decide) (Nat.le_of_ble_eq_true rfl) rfl ?_
                          show WP E ad 178 [some (.ref (ad 71)), some (.int z121), some (.int z), some (.int (τ.1 86 z.toNatClampNeg))] [] τ119
                          refine s_iinc C dX10_conditionFault_178 rfl (by decide) rfl (by decide) (by omega) (fun z122 tz122 => ?_)
                          show WP E ad 181 [some (.ref (ad 71)), some (.int z121), some (.int z122), some (.int (τ.1 86 z.toNatClampNeg))] [] τ119
                          refine s_goto (tgt := 230) C dX10_conditionFault_181 (by decide) ?_
                          refine s_iload_n C dX10_conditionFault_230 rfl ?_
                          refine s_if_ge (tgt := 238) C dX10_conditionFault_231 (by decide) (fun q123 => ?_) (fun q123 => ?_)
                          · refine s_goto (tgt := 9) C dX10_conditionFault_238 (by decide) ?_
                            refine wp_le (lv' := [some (.ref (ad 71)), some (.int z121), some (.int z122), none]) ⟨rfl, ⟨rfl, ⟨rfl, trivial⟩⟩⟩ ?_
                            have a1 := A_amp (s := y.toInt.toNat) (pr := (σ.1 71 0).toInt) (t := (σ.1 86)) (n := (σ.1 71 17).toInt.toNat) (o := o) (k := z.toInt.toNat) (by omega) (by omega) (by omega)
                            rw [a1] at hA
                            have ek1 : z122.toInt.toNat = z.toInt.toNat + 1 := by omega
                            exact ih τ119 (te o) z121 z122 (Fr.tr (Fr.tr Fr.rf (Fr.mo kF (by decide) (by decide))) (Fr.mo h120.1 (by decide) (by decide))) dτ119 pτ119 (by omega) (by omega) (by omega) (by rw [ek1, show z121.toInt.toNat = 0 by omega]; exact hA) (by omega)
                          · skip
                            refine s_iconst C dX10_conditionFault_234 (by decide) (fun z124 tz124 => ?_)
                            refine s_iload_n C dX10_conditionFault_235 rfl ?_
                            refine s_isub C dX10_conditionFault_236 (by omega) (fun z125 tz125 => ?_)
                            exact s_iret C X dX10_conditionFault_237 ⟨(Fr.tr (Fr.tr Fr.rf (Fr.mo kF (by decide) (by decide))) (Fr.mo h120.1 (by decide) (by decide))), (by omega), by omega, by omega⟩
                  · refine s_iload_n C dX10_conditionFault_137 rfl ?_
                    refine s_iconst C dX10_conditionFault_138 (by decide) (fun z126 tz126 => ?_)
                    refine s_icmp_ne (tgt := 155) C dX10_conditionFault_139 (by decide) (fun q127 => ?_) (fun q127 => ?_)
                    · refine s_iload_n C dX10_conditionFault_155 rfl ?_
                      refine s_bipush C dX10_conditionFault_156 (by decide) (fun z128 tz128 => ?_)
                      refine s_icmp_eq (tgt := 167) C dX10_conditionFault_158 (by decide) (fun q129 => ?_) (fun q129 => ?_)
                      · omega
                      · refine s_iload_n C dX10_conditionFault_161 rfl ?_
                        refine s_bipush C dX10_conditionFault_162 (by decide) (fun z130 tz130 => ?_)
                        refine s_icmp_ne (tgt := 184) C dX10_conditionFault_164 (by decide) (fun q131 => ?_) (fun q131 => ?_)
                        · refine s_iload_n C dX10_conditionFault_184 rfl ?_
                          refine s_bipush C dX10_conditionFault_185 (by decide) (fun z132 tz132 => ?_)
                          refine s_icmp_ne (tgt := 228) C dX10_conditionFault_187 (by decide) (fun q133 => ?_) (fun q133 => ?_)
                          · skip
                            refine s_iload_n C dX10_conditionFault_228 rfl ?_
                            exact s_iret C X dX10_conditionFault_229 ⟨(Fr.tr Fr.rf (Fr.mo kF (by decide) (by decide))), (by have a1 := A_else (s := y.toInt.toNat) (pr := (σ.1 71 0).toInt) (t := (σ.1 86)) (n := (σ.1 71 17).toInt.toNat) (o := o) (k := z.toInt.toNat) (by omega) (by omega) (by omega) (by omega) (by omega) (fun q => by first | (have q9 := mh99.mpr q.2.2; omega) | omega); rw [a1] at hA; omega), by omega, by omega⟩
                          · omega
                        · omega
                    · refine s_aload_n C dX10_conditionFault_142 rfl ?_
                      refine s_iload_n C dX10_conditionFault_143 rfl ?_
                      refine s_iconst C dX10_conditionFault_144 (by decide) (fun z134 tz134 => ?_)
                      refine s_iadd C dX10_conditionFault_145 (by omega) (fun z135 tz135 => ?_)
                      refine s_callVI (st := []) C (f_behindUnit l ad τ z135 (by omega) (by omega) (by omega)) cv_X10_263 y71 rfl rfl rfl ⟨by decide, by decide⟩ (Nat.le_of_ble_eq_true rfl) dX10_conditionFault_146 ?_
                      intro r136 τ137 h138
                      obtain ⟨eh138, h138⟩ := h138; replace eh138 := eh138.symm; subst eh138
                      have uh138 := h138
                      rw [f0, f17, e86] at uh138
                      have vh138 := bu_b (σ.1 71 0).toInt (σ.1 86) (σ.1 71 17).toInt.toNat z135.toInt.toNat
                      skip
                      refine s_istore_n C dX10_conditionFault_149 (by decide) (Nat.le_of_ble_eq_true rfl) rfl ?_
                      show WP E ad 150 [some (.ref (ad 71)), some (.int y), some (.int r136), some (.int (τ.1 86 z.toNatClampNeg))] [] τ
                      refine s_iconst C dX10_conditionFault_150 (by decide) (fun z139 tz139 => ?_)
                      refine s_istore_n C dX10_conditionFault_151 (by decide) (Nat.le_of_ble_eq_true rfl) rfl ?_
                      show WP E ad 152 [some (.ref (ad 71)), some (.int z139), some (.int r136), some (.int (τ.1 86 z.toNatClampNeg))] [] τ
                      refine s_goto (tgt := 230) C dX10_conditionFault_152 (by decide) ?_
                      refine s_iload_n C dX10_conditionFault_230 rfl ?_
                      refine s_if_ge (tgt := 238) C dX10_conditionFault_231 (by decide) (fun q140 => ?_) (fun q140 => ?_)
                      · refine s_goto (tgt := 9) C dX10_conditionFault_238 (by decide) ?_
                        refine wp_le (lv' := [some (.ref (ad 71)), some (.int z139), some (.int r136), none]) ⟨rfl, ⟨rfl, ⟨rfl, trivial⟩⟩⟩ ?_
                        have ez1 : z135.toInt.toNat = z.toInt.toNat + 1 := (by omega)
                        rw [ez1] at uh138 vh138
                        have a1 := A_rel (pr := (σ.1 71 0).toInt) (t := (σ.1 86)) (n := (σ.1 71 17).toInt.toNat) (o := o) (k := z.toInt.toNat) (by omega) (by omega)
                        rw [show y.toInt.toNat = 1 by omega, a1, Uu_ok (show bu (σ.1 71 0).toInt (σ.1 86) (σ.1 71 17).toInt.toNat (z.toInt.toNat + 1) = ((r136.toInt.toNat : Nat) : Int) by omega)] at hA
                        exact ih τ o z139 r136 (Fr.tr Fr.rf (Fr.mo kF (by decide) (by decide))) hd ho (by omega) (by omega) (by omega) (by rw [show z139.toInt.toNat = 2 by omega]; exact hA) (by omega)
                      · skip
                        refine s_iconst C dX10_conditionFault_234 (by decide) (fun z141 tz141 => ?_)
                        refine s_iload_n C dX10_conditionFault_235 rfl ?_
                        refine s_isub C dX10_conditionFault_236 (by omega) (fun z142 tz142 => ?_)
                        exact s_iret C X dX10_conditionFault_237 ⟨(Fr.tr Fr.rf (Fr.mo kF (by decide) (by decide))), (by have ez1 : z135.toInt.toNat = z.toInt.toNat + 1 := (by omega); rw [ez1] at uh138 vh138; have a1 := A_rel (pr := (σ.1 71 0).toInt) (t := (σ.1 86)) (n := (σ.1 71 17).toInt.toNat) (o := o) (k := z.toInt.toNat) (by omega) (by omega); rw [show y.toInt.toNat = 1 by omega, a1, Uu_no (show bu (σ.1 71 0).toInt (σ.1 86) (σ.1 71 17).toInt.toNat (z.toInt.toNat + 1) = -1 - ((z142.toInt.toNat : Nat) : Int) by omega)] at hA; omega), by omega, by omega⟩
            · refine s_iload_n C dX10_conditionFault_103 rfl ?_
              refine s_iconst C dX10_conditionFault_104 (by decide) (fun z143 tz143 => ?_)
              refine s_icmp_ge (tgt := 119) C dX10_conditionFault_105 (by decide) (fun q144 => ?_) (fun q144 => ?_)
              · refine s_iload_n C dX10_conditionFault_119 rfl ?_
                refine s_bipush C dX10_conditionFault_120 (by decide) (fun z145 tz145 => ?_)
                refine s_icmp_eq (tgt := 137) C dX10_conditionFault_122 (by decide) (fun q146 => ?_) (fun q146 => ?_)
                · omega
                · refine s_iload_n C dX10_conditionFault_125 rfl ?_
                  refine s_bipush C dX10_conditionFault_126 (by decide) (fun z147 tz147 => ?_)
                  refine s_icmp_eq (tgt := 137) C dX10_conditionFault_128 (by decide) (fun q148 => ?_) (fun q148 => ?_)
                  · omega
                  · refine s_iload_n C dX10_conditionFault_131 rfl ?_
                    refine s_bipush C dX10_conditionFault_132 (by decide) (fun z149 tz149 => ?_)
                    refine s_icmp_ne (tgt := 155) C dX10_conditionFault_134 (by decide) (fun q150 => ?_) (fun q150 => ?_)
                    · refine s_iload_n C dX10_conditionFault_155 rfl ?_
                      refine s_bipush C dX10_conditionFault_156 (by decide) (fun z151 tz151 => ?_)
                      refine s_icmp_eq (tgt := 167) C dX10_conditionFault_158 (by decide) (fun q152 => ?_) (fun q152 => ?_)
                      · omega
                      · refine s_iload_n C dX10_conditionFault_161 rfl ?_
                        refine s_bipush C dX10_conditionFault_162 (by decide) (fun z153 tz153 => ?_)
                        refine s_icmp_ne (tgt := 184) C dX10_conditionFault_164 (by decide) (fun q154 => ?_) (fun q154 => ?_)
                        · refine s_iload_n C dX10_conditionFault_184 rfl ?_
                          refine s_bipush C dX10_conditionFault_185 (by decide) (fun z155 tz155 => ?_)
                          refine s_icmp_ne (tgt := 228) C dX10_conditionFault_187 (by decide) (fun q156 => ?_) (fun q156 => ?_)
                          · skip
                            refine s_iload_n C dX10_conditionFault_228 rfl ?_
                            exact s_iret C X dX10_conditionFault_229 ⟨(Fr.tr Fr.rf (Fr.mo kF (by decide) (by decide))), (by have a1 := A_else (s := y.toInt.toNat) (pr := (σ.1 71 0).toInt) (t := (σ.1 86)) (n := (σ.1 71 17).toInt.toNat) (o := o) (k := z.toInt.toNat) (by omega) (by omega) (by omega) (by omega) (by omega) (fun q => by first | (have q9 := mh99.mpr q.2.2; omega) | omega); rw [a1] at hA; omega), by omega, by omega⟩
                          · omega
                        · omega
                    · omega
              · refine s_aload_n C dX10_conditionFault_108 rfl ?_
                refine s_iload_n C dX10_conditionFault_109 rfl ?_
                refine s_iconst C dX10_conditionFault_110 (by decide) (fun z157 tz157 => ?_)
                refine s_iadd C dX10_conditionFault_111 (by omega) (fun z158 tz158 => ?_)
                refine s_callVI (st := []) C (f_behindUnit l ad τ z158 (by omega) (by omega) (by omega)) cv_X10_263 y71 rfl rfl rfl ⟨by decide, by decide⟩ (Nat.le_of_ble_eq_true rfl) dX10_conditionFault_112 ?_
                intro r159 τ160 h161
                obtain ⟨eh161, h161⟩ := h161; replace eh161 := eh161.symm; subst eh161
                have uh161 := h161
                rw [f0, f17, e86] at uh161
                have vh161 := bu_b (σ.1 71 0).toInt (σ.1 86) (σ.1 71 17).toInt.toNat z158.toInt.toNat
                skip
                refine s_istore_n C dX10_conditionFault_115 (by decide) (Nat.le_of_ble_eq_true rfl) rfl ?_
                show WP E ad 116 [some (.ref (ad 71)), some (.int y), some (.int r159), some (.int (τ.1 86 z.toNatClampNeg))] [] τ
                refine s_goto (tgt := 230) C dX10_conditionFault_116 (by decide) ?_
                refine s_iload_n C dX10_conditionFault_230 rfl ?_
                refine s_if_ge (tgt := 238) C dX10_conditionFault_231 (by decide) (fun q162 => ?_) (fun q162 => ?_)
                · refine s_goto (tgt := 9) C dX10_conditionFault_238 (by decide) ?_
                  refine wp_le (lv' := [some (.ref (ad 71)), some (.int y), some (.int r159), none]) ⟨rfl, ⟨rfl, ⟨rfl, trivial⟩⟩⟩ ?_
                  have ez1 : z158.toInt.toNat = z.toInt.toNat + 1 := (by omega)
                  rw [ez1] at uh161 vh161
                  have a1 := A_plus (s := y.toInt.toNat) (pr := (σ.1 71 0).toInt) (t := (σ.1 86)) (n := (σ.1 71 17).toInt.toNat) (o := o) (k := z.toInt.toNat) (by omega) (by omega) (by omega)
                  rw [a1, Uu_ok (show bu (σ.1 71 0).toInt (σ.1 86) (σ.1 71 17).toInt.toNat (z.toInt.toNat + 1) = ((r159.toInt.toNat : Nat) : Int) by omega)] at hA
                  exact ih τ o y r159 (Fr.tr Fr.rf (Fr.mo kF (by decide) (by decide))) hd ho (by omega) (by omega) (by omega) hA (by omega)
                · skip
                  refine s_iconst C dX10_conditionFault_234 (by decide) (fun z163 tz163 => ?_)
                  refine s_iload_n C dX10_conditionFault_235 rfl ?_
                  refine s_isub C dX10_conditionFault_236 (by omega) (fun z164 tz164 => ?_)
                  exact s_iret C X dX10_conditionFault_237 ⟨(Fr.tr Fr.rf (Fr.mo kF (by decide) (by decide))), (by have ez1 : z158.toInt.toNat = z.toInt.toNat + 1 := (by omega); rw [ez1] at uh161 vh161; have a1 := A_plus (s := y.toInt.toNat) (pr := (σ.1 71 0).toInt) (t := (σ.1 86)) (n := (σ.1 71 17).toInt.toNat) (o := o) (k := z.toInt.toNat) (by omega) (by omega) (by omega); rw [a1, Uu_no (show bu (σ.1 71 0).toInt (σ.1 86) (σ.1 71 17).toInt.toNat (z.toInt.toNat + 1) = -1 - ((z164.toInt.toNat : Nat) : Int) by omega)] at hA; omega), by omega, by omega⟩
        · omega
      · refine s_iload_n C dX10_conditionFault_28 rfl ?_
        refine s_bipush C dX10_conditionFault_29 (by decide) (fun z165 tz165 => ?_)
        refine s_icmp_eq (tgt := 40) C dX10_conditionFault_31 (by decide) (fun q166 => ?_) (fun q166 => ?_)
        · refine s_aload_n C dX10_conditionFault_40 rfl ?_
          refine s_get (k := 49) (x := (τ.1 71 49)) C y71 fw_X10_260 rfl rfl dX10_conditionFault_41 ?_
          refine s_iconst C dX10_conditionFault_44 (by decide) (fun z167 tz167 => ?_)
          refine s_icmp_ne (tgt := 50) C dX10_conditionFault_45 (by decide) (fun q168 => ?_) (fun q168 => ?_)
          · refine s_aload_n C dX10_conditionFault_50 rfl ?_
            refine s_getr (k := 48) (j := 109) C y71 fw_X10_128 rfl dX10_conditionFault_51 ?_
            refine s_aload_n C dX10_conditionFault_54 rfl ?_
            refine s_get (k := 49) (x := (τ.1 71 49)) C y71 fw_X10_260 rfl rfl dX10_conditionFault_55 ?_
            refine s_iload_n C dX10_conditionFault_58 rfl ?_
            refine s_iast C y109 (by omega) dX10_conditionFault_59 ?_
            skip
            refine s_aload_n C dX10_conditionFault_60 rfl ?_
            refine s_dup C dX10_conditionFault_61 rfl ?_
            refine s_get (k := 49) (x := (τ.1 71 49)) C y71 fw_X10_260 rfl rfl dX10_conditionFault_62 ?_
            refine s_iconst C dX10_conditionFault_65 (by decide) (fun z169 tz169 => ?_)
            refine s_iadd C dX10_conditionFault_66 (by omega) (fun z170 tz170 => ?_)
            refine s_put (k := 49) C y71 fw_X10_260 fp_9_49 rfl dX10_conditionFault_67 ?_
            refine s_iinc C dX10_conditionFault_70 rfl (by decide) rfl (by decide) (by omega) (fun z171 tz171 => ?_)
            show WP E ad 73 [some (.ref (ad 71)), some (.int y), some (.int z171), some (.int (τ.1 86 z.toNatClampNeg))] [] (sV (sV τ 109 ((τ.1 71 49).toNatClampNeg) (τ.1 86 z.toNatClampNeg)) 71 49 z170)
            refine s_goto (tgt := 230) C dX10_conditionFault_73 (by decide) ?_
            refine s_iload_n C dX10_conditionFault_230 rfl ?_
            refine s_if_ge (tgt := 238) C dX10_conditionFault_231 (by decide) (fun q172 => ?_) (fun q172 => ?_)
            · refine s_goto (tgt := 9) C dX10_conditionFault_238 (by decide) ?_
              refine wp_le (lv' := [some (.ref (ad 71)), some (.int y), some (.int z171), none]) ⟨rfl, ⟨rfl, ⟨rfl, trivial⟩⟩⟩ ?_
              have hdn : (τ.1 71 49).toNatClampNeg = o.length := by unfold Int32.toNatClampNeg; omega
              have hop : Op ((sV (sV τ 109 ((τ.1 71 49).toNatClampNeg) (τ.1 86 z.toNatClampNeg)) 71 49 z170).1 109) (decide (Int32.toInt (σ.1 86 z.toInt.toNat) = 40) :: o) := by show Op (upd (τ.1 109) (τ.1 71 49).toNatClampNeg (τ.1 86 z.toNatClampNeg)) _; rw [hdn]; exact Op_push ho (by omega) (by omega)
              have a1 := A_open (pr := (σ.1 71 0).toInt) (t := (σ.1 86)) (n := (σ.1 71 17).toInt.toNat) (o := o) (k := z.toInt.toNat) (by omega) (by omega)
              rw [if_neg (by omega)] at a1
              rw [show y.toInt.toNat = 0 by omega, a1] at hA
              have ek1 : z171.toInt.toNat = z.toInt.toNat + 1 := by omega
              exact ih (sV (sV τ 109 ((τ.1 71 49).toNatClampNeg) (τ.1 86 z.toNatClampNeg)) 71 49 z170) (decide (Int32.toInt (σ.1 86 z.toInt.toNat) = 40) :: o) y z171 (Fr.sV (Fr.sV (Fr.tr Fr.rf (Fr.mo kF (by decide) (by decide))) (Or.inl (by decide))) (Or.inr (by decide))) (by show Int32.toInt z170 = ((_ :: o : List Bool).length : Int); rw [List.length_cons]; omega) hop (by rw [List.length_cons]; omega) (by omega) (by omega) (by rw [ek1, show y.toInt.toNat = 0 by omega]; exact hA) (by omega)
            · skip
              refine s_iconst C dX10_conditionFault_234 (by decide) (fun z173 tz173 => ?_)
              refine s_iload_n C dX10_conditionFault_235 rfl ?_
              refine s_isub C dX10_conditionFault_236 (by omega) (fun z174 tz174 => ?_)
              exact s_iret C X dX10_conditionFault_237 ⟨(Fr.sV (Fr.sV (Fr.tr Fr.rf (Fr.mo kF (by decide) (by decide))) (Or.inl (by decide))) (Or.inr (by decide))), (by omega), by omega, by omega⟩
          · skip
            refine s_iload_n C dX10_conditionFault_48 rfl ?_
            exact s_iret C X dX10_conditionFault_49 ⟨(Fr.tr Fr.rf (Fr.mo kF (by decide) (by decide))), (by have a1 := A_open (pr := (σ.1 71 0).toInt) (t := (σ.1 86)) (n := (σ.1 71 17).toInt.toNat) (o := o) (k := z.toInt.toNat) (by omega) (by omega); rw [if_pos (by omega)] at a1; rw [show y.toInt.toNat = 0 by omega, a1] at hA; omega), by omega, by omega⟩
        · refine s_iload_n C dX10_conditionFault_34 rfl ?_
          refine s_bipush C dX10_conditionFault_35 (by decide) (fun z175 tz175 => ?_)
          refine s_icmp_ne (tgt := 76) C dX10_conditionFault_37 (by decide) (fun q176 => ?_) (fun q176 => ?_)
          · refine s_iload_n C dX10_conditionFault_76 rfl ?_
            refine s_if_ne (tgt := 91) C dX10_conditionFault_77 (by decide) (fun q177 => ?_) (fun q177 => ?_)
            · omega
            · refine s_aload_n C dX10_conditionFault_80 rfl ?_
              refine s_iload_n C dX10_conditionFault_81 rfl ?_
              refine s_callVI (st := []) C (f_behindUnit l ad τ z (by omega) (by omega) (by omega)) cv_X10_263 y71 rfl rfl rfl ⟨by decide, by decide⟩ (Nat.le_of_ble_eq_true rfl) dX10_conditionFault_82 ?_
              intro r178 τ179 h180
              obtain ⟨eh180, h180⟩ := h180; replace eh180 := eh180.symm; subst eh180
              have uh180 := h180
              rw [f0, f17, e86] at uh180
              have vh180 := bu_b (σ.1 71 0).toInt (σ.1 86) (σ.1 71 17).toInt.toNat z.toInt.toNat
              skip
              refine s_istore_n C dX10_conditionFault_85 (by decide) (Nat.le_of_ble_eq_true rfl) rfl ?_
              show WP E ad 86 [some (.ref (ad 71)), some (.int y), some (.int r178), some (.int (τ.1 86 z.toNatClampNeg))] [] τ
              refine s_iconst C dX10_conditionFault_86 (by decide) (fun z181 tz181 => ?_)
              refine s_istore_n C dX10_conditionFault_87 (by decide) (Nat.le_of_ble_eq_true rfl) rfl ?_
              show WP E ad 88 [some (.ref (ad 71)), some (.int z181), some (.int r178), some (.int (τ.1 86 z.toNatClampNeg))] [] τ
              refine s_goto (tgt := 230) C dX10_conditionFault_88 (by decide) ?_
              refine s_iload_n C dX10_conditionFault_230 rfl ?_
              refine s_if_ge (tgt := 238) C dX10_conditionFault_231 (by decide) (fun q182 => ?_) (fun q182 => ?_)
              · refine s_goto (tgt := 9) C dX10_conditionFault_238 (by decide) ?_
                refine wp_le (lv' := [some (.ref (ad 71)), some (.int z181), some (.int r178), none]) ⟨rfl, ⟨rfl, ⟨rfl, trivial⟩⟩⟩ ?_
                have a1 := A_unit (pr := (σ.1 71 0).toInt) (t := (σ.1 86)) (n := (σ.1 71 17).toInt.toNat) (o := o) (k := z.toInt.toNat) (by omega) (Or.inr (by omega))
                rw [show y.toInt.toNat = 0 by omega, a1, Uu_ok (show bu (σ.1 71 0).toInt (σ.1 86) (σ.1 71 17).toInt.toNat z.toInt.toNat = ((r178.toInt.toNat : Nat) : Int) by omega)] at hA
                exact ih τ o z181 r178 (Fr.tr Fr.rf (Fr.mo kF (by decide) (by decide))) hd ho (by omega) (by omega) (by omega) (by rw [show z181.toInt.toNat = 1 by omega]; exact hA) (by omega)
              · skip
                refine s_iconst C dX10_conditionFault_234 (by decide) (fun z183 tz183 => ?_)
                refine s_iload_n C dX10_conditionFault_235 rfl ?_
                refine s_isub C dX10_conditionFault_236 (by omega) (fun z184 tz184 => ?_)
                exact s_iret C X dX10_conditionFault_237 ⟨(Fr.tr Fr.rf (Fr.mo kF (by decide) (by decide))), (by have a1 := A_unit (pr := (σ.1 71 0).toInt) (t := (σ.1 86)) (n := (σ.1 71 17).toInt.toNat) (o := o) (k := z.toInt.toNat) (by omega) (Or.inr (by omega)); rw [show y.toInt.toNat = 0 by omega, a1, Uu_no (show bu (σ.1 71 0).toInt (σ.1 86) (σ.1 71 17).toInt.toNat z.toInt.toNat = -1 - ((z184.toInt.toNat : Nat) : Int) by omega)] at hA; omega), by omega, by omega⟩
          · refine s_aload_n C dX10_conditionFault_40 rfl ?_
            refine s_get (k := 49) (x := (τ.1 71 49)) C y71 fw_X10_260 rfl rfl dX10_conditionFault_41 ?_
            refine s_iconst C dX10_conditionFault_44 (by decide) (fun z185 tz185 => ?_)
            refine s_icmp_ne (tgt := 50) C dX10_conditionFault_45 (by decide) (fun q186 => ?_) (fun q186 => ?_)
            · refine s_aload_n C dX10_conditionFault_50 rfl ?_
              refine s_getr (k := 48) (j := 109) C y71 fw_X10_128 rfl dX10_conditionFault_51 ?_
              refine s_aload_n C dX10_conditionFault_54 rfl ?_
              refine s_get (k := 49) (x := (τ.1 71 49)) C y71 fw_X10_260 rfl rfl dX10_conditionFault_55 ?_
              refine s_iload_n C dX10_conditionFault_58 rfl ?_
              refine s_iast C y109 (by omega) dX10_conditionFault_59 ?_
              skip
              refine s_aload_n C dX10_conditionFault_60 rfl ?_
              refine s_dup C dX10_conditionFault_61 rfl ?_
              refine s_get (k := 49) (x := (τ.1 71 49)) C y71 fw_X10_260 rfl rfl dX10_conditionFault_62 ?_
              refine s_iconst C dX10_conditionFault_65 (by decide) (fun z187 tz187 => ?_)
              refine s_iadd C dX10_conditionFault_66 (by omega) (fun z188 tz188 => ?_)
              refine s_put (k := 49) C y71 fw_X10_260 fp_9_49 rfl dX10_conditionFault_67 ?_
              refine s_iinc C dX10_conditionFault_70 rfl (by decide) rfl (by decide) (by omega) (fun z189 tz189 => ?_)
              show WP E ad 73 [some (.ref (ad 71)), some (.int y), some (.int z189), some (.int (τ.1 86 z.toNatClampNeg))] [] (sV (sV τ 109 ((τ.1 71 49).toNatClampNeg) (τ.1 86 z.toNatClampNeg)) 71 49 z188)
              refine s_goto (tgt := 230) C dX10_conditionFault_73 (by decide) ?_
              refine s_iload_n C dX10_conditionFault_230 rfl ?_
              refine s_if_ge (tgt := 238) C dX10_conditionFault_231 (by decide) (fun q190 => ?_) (fun q190 => ?_)
              · refine s_goto (tgt := 9) C dX10_conditionFault_238 (by decide) ?_
                refine wp_le (lv' := [some (.ref (ad 71)), some (.int y), some (.int z189), none]) ⟨rfl, ⟨rfl, ⟨rfl, trivial⟩⟩⟩ ?_
                have hdn : (τ.1 71 49).toNatClampNeg = o.length := by unfold Int32.toNatClampNeg; omega
                have hop : Op ((sV (sV τ 109 ((τ.1 71 49).toNatClampNeg) (τ.1 86 z.toNatClampNeg)) 71 49 z188).1 109) (decide (Int32.toInt (σ.1 86 z.toInt.toNat) = 40) :: o) := by show Op (upd (τ.1 109) (τ.1 71 49).toNatClampNeg (τ.1 86 z.toNatClampNeg)) _; rw [hdn]; exact Op_push ho (by omega) (by omega)
                have a1 := A_open (pr := (σ.1 71 0).toInt) (t := (σ.1 86)) (n := (σ.1 71 17).toInt.toNat) (o := o) (k := z.toInt.toNat) (by omega) (by omega)
                rw [if_neg (by omega)] at a1
                rw [show y.toInt.toNat = 0 by omega, a1] at hA
                have ek1 : z189.toInt.toNat = z.toInt.toNat + 1 := by omega
                exact ih (sV (sV τ 109 ((τ.1 71 49).toNatClampNeg) (τ.1 86 z.toNatClampNeg)) 71 49 z188) (decide (Int32.toInt (σ.1 86 z.toInt.toNat) = 40) :: o) y z189 (Fr.sV (Fr.sV (Fr.tr Fr.rf (Fr.mo kF (by decide) (by decide))) (Or.inl (by decide))) (Or.inr (by decide))) (by show Int32.toInt z188 = ((_ :: o : List Bool).length : Int); rw [List.length_cons]; omega) hop (by rw [List.length_cons]; omega) (by omega) (by omega) (by rw [ek1, show y.toInt.toNat = 0 by omega]; exact hA) (by omega)
              · skip
                refine s_iconst C dX10_conditionFault_234 (by decide) (fun z191 tz191 => ?_)
                refine s_iload_n C dX10_conditionFault_235 rfl ?_
                refine s_isub C dX10_conditionFault_236 (by omega) (fun z192 tz192 => ?_)
                exact s_iret C X dX10_conditionFault_237 ⟨(Fr.sV (Fr.sV (Fr.tr Fr.rf (Fr.mo kF (by decide) (by decide))) (Or.inl (by decide))) (Or.inr (by decide))), (by omega), by omega, by omega⟩
            · skip
              refine s_iload_n C dX10_conditionFault_48 rfl ?_
              exact s_iret C X dX10_conditionFault_49 ⟨(Fr.tr Fr.rf (Fr.mo kF (by decide) (by decide))), (by have a1 := A_open (pr := (σ.1 71 0).toInt) (t := (σ.1 86)) (n := (σ.1 71 17).toInt.toNat) (o := o) (k := z.toInt.toNat) (by omega) (by omega); rw [if_pos (by omega)] at a1; rw [show y.toInt.toNat = 0 by omega, a1] at hA; omega), by omega, by omega⟩
set_option maxRecDepth 100000 in
theorem f_conditionFault (l : Launch) (ad : Nat → Nat) (σ : Sg) (htp : 0 ≤ (σ.1 71 17).toInt ∧ (σ.1 71 17).toInt ≤ 60) (hpr : 1 ≤ (σ.1 71 0).toInt ∧ (σ.1 71 0).toInt ≤ 4) : Mt l yX10_conditionFault cX10_conditionFault 4 (some .int) 3 ad σ [.ref (ad 71)] (oI (fun r τ => Fr [109] [(71, 49)] σ τ ∧ r.toInt = Au (σ.1 71 0).toInt (σ.1 86) (σ.1 71 17).toInt.toNat 0 [] 0 ∧ -1 ≤ r.toInt ∧ r.toInt ≤ 70)) := by
  refine Mt_intro (by decide +kernel) (by simp [lg_sl, Value.category]) (fun E C X => ?_)
  show WP E ad 0 [some (.ref (ad 71)), none, none, none] [] σ
  refine s_iconst C dX10_conditionFault_0 (by decide) (fun z1 tz1 => ?_)
  refine s_istore_n C dX10_conditionFault_1 (by decide) (Nat.le_of_ble_eq_true rfl) rfl ?_
  show WP E ad 2 [some (.ref (ad 71)), some (.int z1), none, none] [] σ
  refine s_iconst C dX10_conditionFault_2 (by decide) (fun z2 tz2 => ?_)
  refine s_istore_n C dX10_conditionFault_3 (by decide) (Nat.le_of_ble_eq_true rfl) rfl ?_
  show WP E ad 4 [some (.ref (ad 71)), some (.int z1), some (.int z2), none] [] σ
  refine s_aload_n C dX10_conditionFault_4 rfl ?_
  refine s_iconst C dX10_conditionFault_5 (by decide) (fun z3 tz3 => ?_)
  refine s_put (k := 49) C y71 fw_X10_260 fp_9_49 rfl dX10_conditionFault_6 ?_
  exact L_fFault l ad E σ htp hpr C X 100 (sV σ 71 49 z3) [] z1 z2 (Fr.sV Fr.rf (Or.inr (by decide))) (by show Int32.toInt z3 = 0; omega) trivial (by simp) (by omega) (by omega) (by rw [show z1.toInt.toNat = 0 by omega, show z2.toInt.toNat = 0 by omega]) (by omega)
set_option maxRecDepth 100000 in
theorem L_fread (l : Launch) (ad : Nat → Nat) (E : Ev) (σ : Sg) (hI : IM σ.1) (c g n0 : Int32) (hc : 0 ≤ c.toInt ∧ c.toInt ≤ 2) (hn : 0 ≤ n0.toInt ∧ n0.toInt ≤ 60) (hW : WF (σ.1 71 0).toInt (σ.1 86) n0.toInt.toNat) (hA : n0.toInt = rdA (Au (σ.1 71 0).toInt (σ.1 86) (σ.1 71 17).toInt.toNat 0 [] 0) (σ.1 71 17).toInt.toNat) (C : Cx E l (rmk 4) 5 cX10_read RX10) (X : Rx E ad (some .int) (oI (fun r τ => IM τ.1 ∧ Fr [84, 85, 109] [(71, 17), (71, 49)] σ τ ∧ ((0 ≤ c.toInt ∧ c.toInt ≤ 2 → (τ.1 71 17).toInt = 0) ∧ (¬ (0 ≤ c.toInt ∧ c.toInt ≤ 2) → τ.1 71 17 = σ.1 71 17)) ∧ ((0 ≤ c.toInt ∧ c.toInt ≤ 2 → r.toInt = rdA (Au (σ.1 71 0).toInt (σ.1 86) (σ.1 71 17).toInt.toNat 0 [] 0) (σ.1 71 17).toInt.toNat) ∧ (¬ (0 ≤ c.toInt ∧ c.toInt ≤ 2) → r.toInt = -1)))))  : ∀ (n : Nat) (τ : Sg) (z : Int32), (Fr [85, 109] [(71, 17), (71, 49)] σ τ) → ((τ.1 71 17).toInt = 0) → (∀ j : Nat, (j : Int) < z.toInt → τ.1 85 (60 * c.toInt.toNat + j) = σ.1 86 j) → (∀ j : Nat, ¬ (60 * c.toInt.toNat ≤ j ∧ j < 60 * c.toInt.toNat + 60) → τ.1 85 j = σ.1 85 j) → (0 ≤ z.toInt ∧ z.toInt ≤ n0.toInt) → (60 - z.toInt).toNat < n → WP E ad 36 [some (.ref (ad 71)), some (.int c), some (.int g), some (.int n0), some (.int z)] [] τ := by
  intro n
  induction n with
  | zero => intro τ z kF k17 kx ko h0 hm9; exact absurd hm9 (Nat.not_lt_zero _)
  | succ n ih =>
    intro τ z kF k17 kx ko h0 hm9
    refine s_iload C dX10_read_36 rfl ?_
    refine s_iload_n C dX10_read_38 rfl ?_
    refine s_icmp_ge (tgt := 67) C dX10_read_39 (by decide) (fun q1 => ?_) (fun q1 => ?_)
    · refine s_aload_n C dX10_read_67 rfl ?_
      refine s_getr (k := 15) (j := 84) C y71 fw_X10_52 rfl dX10_read_68 ?_
      refine s_iload_n C dX10_read_71 rfl ?_
      refine s_iload_n C dX10_read_72 rfl ?_
      refine s_iast C y84 (by omega) dX10_read_73 ?_
      refine s_iload_n C dX10_read_74 rfl ?_
      exact s_iret C X dX10_read_75 ⟨im_read hI hc hn hW kF k17 (fun j hj => kx j (by omega)) ko, (Fr.sV (Fr.tr Fr.rf (Fr.mo kF (by decide) (by decide))) (Or.inl (by decide))), ⟨fun _ => k17, fun q => absurd hc q⟩, ⟨fun _ => hA, fun q => absurd hc q⟩⟩
    · refine s_aload_n C dX10_read_42 rfl ?_
      refine s_getr (k := 16) (j := 85) C y71 fw_X10_55 rfl dX10_read_43 ?_
      refine s_bipush C dX10_read_46 (by decide) (fun z2 tz2 => ?_)
      refine s_iload_n C dX10_read_48 rfl ?_
      refine s_imulL C tz2 dX10_read_49 (by omega) (fun z3 tz3 => ?_)
      refine s_iload C dX10_read_50 rfl ?_
      refine s_iadd C dX10_read_52 (by omega) (fun z4 tz4 => ?_)
      refine s_aload_n C dX10_read_53 rfl ?_
      refine s_getr (k := 18) (j := 86) C y71 fw_X10_58 rfl dX10_read_54 ?_
      refine s_iload C dX10_read_57 rfl ?_
      refine s_iald (r := (τ.1 86 z.toNatClampNeg)) C y86 (by omega) rfl dX10_read_59 ?_
      refine s_iast C y85 (by omega) dX10_read_60 ?_
      refine s_iinc C dX10_read_61 rfl (by decide) rfl (by decide) (by omega) (fun z5 tz5 => ?_)
      show WP E ad 64 [some (.ref (ad 71)), some (.int c), some (.int g), some (.int n0), some (.int z5)] [] (sV τ 85 z4.toNatClampNeg (τ.1 86 z.toNatClampNeg))
      refine s_goto (tgt := 36) C dX10_read_64 (by decide) ?_
      have hi : z4.toNatClampNeg = 60 * c.toInt.toNat + z.toInt.toNat := by unfold Int32.toNatClampNeg; omega
      have hv : (τ.1 86 z.toNatClampNeg) = σ.1 86 z.toInt.toNat := by rw [kF.a 86 (by decide) (by decide)]; rfl
      exact ih (sV τ 85 z4.toNatClampNeg (τ.1 86 z.toNatClampNeg)) z5 (Fr.sV (Fr.tr Fr.rf (Fr.mo kF (by decide) (by decide))) (Or.inl (by decide))) k17 (fun j hj => by show upd (τ.1 85) z4.toNatClampNeg (τ.1 86 z.toNatClampNeg) _ = _; rw [hi]; by_cases q : j = z.toInt.toNat; (rw [q, pk_us]; exact hv); (rw [pk_un (by omega)]; exact kx j (by omega))) (fun j hj => by show upd (τ.1 85) z4.toNatClampNeg (τ.1 86 z.toNatClampNeg) _ = _; rw [hi, pk_un (by omega)]; exact ko j hj) (by omega) (by omega)
set_option maxRecDepth 100000 in
theorem f_X10_read (l : Launch) (ad : Nat → Nat) (σ : Sg) (c : Int32) (hI : IM σ.1) : Mt l yX10_read cX10_read 5 (some .int) 4 ad σ [.ref (ad 71), .int c] (oI (fun r τ => IM τ.1 ∧ Fr [84, 85, 109] [(71, 17), (71, 49)] σ τ ∧ ((0 ≤ c.toInt ∧ c.toInt ≤ 2 → (τ.1 71 17).toInt = 0) ∧ (¬ (0 ≤ c.toInt ∧ c.toInt ≤ 2) → τ.1 71 17 = σ.1 71 17)) ∧ ((0 ≤ c.toInt ∧ c.toInt ≤ 2 → r.toInt = rdA (Au (σ.1 71 0).toInt (σ.1 86) (σ.1 71 17).toInt.toNat 0 [] 0) (σ.1 71 17).toInt.toNat) ∧ (¬ (0 ≤ c.toInt ∧ c.toInt ≤ 2) → r.toInt = -1)))) := by
  have htp := hI.tp
  have hpr := hI.pr
  refine Mt_intro (by decide +kernel) (by simp [lg_sl, Value.category]) (fun E C X => ?_)
  show WP E ad 0 [some (.ref (ad 71)), some (.int c), none, none, none] [] σ
  refine s_iload_n C dX10_read_0 rfl ?_
  refine s_callSI (st := []) C (c_X10_isCondition l ad σ c ) cv_X10_274 rfl rfl ⟨by decide, by decide⟩ (Nat.le_of_ble_eq_true rfl) dX10_read_1 ?_
  intro r1 τ2 h3
  obtain ⟨eh3, h3⟩ := h3; replace eh3 := eh3.symm; subst eh3
  refine s_if_ne (tgt := 9) C dX10_read_4 (by decide) (fun q4 => ?_) (fun q4 => ?_)
  · refine s_aload_n C dX10_read_9 rfl ?_
    refine s_callVI (st := []) C (f_conditionFault l ad σ htp hpr) cv_X10_277 y71 rfl rfl rfl ⟨by decide, by decide⟩ (Nat.le_of_ble_eq_true rfl) dX10_read_10 ?_
    intro r5 τ6 h7
    have bh7 : -1 ≤ Int32.toInt r5 ∧ Int32.toInt r5 ≤ 70 := h7.2.2
    have ah7 := h7.2.1
    have fh7 : τ6.1 71 17 = σ.1 71 17 := h7.1.f 71 17 (by decide) (by decide)
    have fih7 : Int32.toInt (τ6.1 71 17) = Int32.toInt (σ.1 71 17) := by rw [fh7]
    refine s_istore_n C dX10_read_13 (by decide) (Nat.le_of_ble_eq_true rfl) rfl ?_
    show WP E ad 14 [some (.ref (ad 71)), some (.int c), some (.int r5), none, none] [] τ6
    refine s_aload_n C dX10_read_14 rfl ?_
    refine s_get (k := 17) (x := (τ6.1 71 17)) C y71 fw_X10_247 rfl rfl dX10_read_15 ?_
    refine s_istore_n C dX10_read_18 (by decide) (Nat.le_of_ble_eq_true rfl) rfl ?_
    show WP E ad 19 [some (.ref (ad 71)), some (.int c), some (.int r5), some (.int (τ6.1 71 17)), none] [] τ6
    refine s_aload_n C dX10_read_19 rfl ?_
    refine s_iconst C dX10_read_20 (by decide) (fun z8 tz8 => ?_)
    refine s_put (k := 17) C y71 fw_X10_247 fp_9_17 rfl dX10_read_21 ?_
    refine s_iload_n C dX10_read_24 rfl ?_
    refine s_if_lt (tgt := 33) C dX10_read_25 (by decide) (fun q9 => ?_) (fun q9 => ?_)
    · refine s_iconst C dX10_read_33 (by decide) (fun z10 tz10 => ?_)
      refine s_istore C dX10_read_34 (by decide) (Nat.le_of_ble_eq_true rfl) rfl ?_
      show WP E ad 36 [some (.ref (ad 71)), some (.int c), some (.int r5), some (.int (τ6.1 71 17)), some (.int z10)] [] (sV τ6 71 17 z8)
      exact L_fread l ad E σ hI c r5 (τ6.1 71 17) (by omega) (by omega) (by rw [fh7]; exact Au_WF hpr.2 (by omega)) (by unfold rdA; rw [if_pos (by omega)]; omega) C X 100 (sV τ6 71 17 z8) z10 (Fr.sV (h7.1.mo (by decide) (by decide)) (Or.inr (by decide))) (by show Int32.toInt z8 = 0; omega) (fun j hj => by omega) (fun j hj => by show τ6.1 85 j = _; rw [h7.1.a 85 (by decide) (by decide)]) (by omega) (by omega)
    · refine s_bipush C dX10_read_28 (by decide) (fun z11 tz11 => ?_)
      refine s_iload_n C dX10_read_30 rfl ?_
      refine s_isub C dX10_read_31 (by omega) (fun z12 tz12 => ?_)
      exact s_iret C X dX10_read_32 ⟨(by have k : IM τ6.1 := IM.keep hI h7.1 (by decide) (by decide) (by decide); exact ⟨k.1, k.2.1, (by show 0 ≤ Int32.toInt z8 ∧ Int32.toInt z8 ≤ 60; omega), k.2.2.2.1, k.2.2.2.2.1, k.2.2.2.2.2.1, k.2.2.2.2.2.2⟩), (Fr.sV (Fr.tr Fr.rf (Fr.mo h7.1 (by decide) (by decide))) (Or.inr (by decide))), ⟨fun _ => by show Int32.toInt z8 = 0; omega, fun q => by omega⟩, ⟨fun _ => by unfold rdA; rw [if_neg (by omega)]; omega, fun q => by omega⟩⟩
  · refine s_iconst C dX10_read_7 (by decide) (fun z13 tz13 => ?_)
    exact s_iret C X dX10_read_8 ⟨hI, Fr.rf, ⟨fun q => by omega, fun _ => rfl⟩, ⟨fun q => by omega, fun _ => by omega⟩⟩
set_option maxRecDepth 100000 in
theorem f_X10_feed (l : Launch) (ad : Nat → Nat) (σ : Sg) (c : Int32) (hI : IM σ.1) : Mt l yX10_feed cX10_feed 2 (some .int) 2 ad σ [.ref (ad 71), .int c] (oI (fun r τ => IM τ.1 ∧ Fr [86] [(71, 17)] σ τ ∧ ((¬ (32 ≤ c.toInt ∧ c.toInt ≤ 126) ∧ r.toInt = -2 ∧ τ.1 71 17 = σ.1 71 17) ∨ ((32 ≤ c.toInt ∧ c.toInt ≤ 126) ∧ 60 ≤ (σ.1 71 17).toInt ∧ r.toInt = -4 ∧ τ.1 71 17 = σ.1 71 17) ∨ ((32 ≤ c.toInt ∧ c.toInt ≤ 126) ∧ (σ.1 71 17).toInt < 60 ∧ r.toInt = (σ.1 71 17).toInt + 1 ∧ (τ.1 71 17).toInt = (σ.1 71 17).toInt + 1)) ∧ ((32 ≤ c.toInt ∧ c.toInt ≤ 126 ∧ (σ.1 71 17).toInt < 60) → τ.1 86 = upd (σ.1 86) (σ.1 71 17).toNatClampNeg c) ∧ (¬ (32 ≤ c.toInt ∧ c.toInt ≤ 126 ∧ (σ.1 71 17).toInt < 60) → τ.1 86 = σ.1 86))) := by
  have hpr := hI.pr
  have htot := hI.tot
  have hms := hI.ms
  have htp := hI.tp
  refine Mt_intro (by decide +kernel) (by simp [lg_sl, Value.category]) (fun E C X => ?_)
  show WP E ad 0 [some (.ref (ad 71)), some (.int c)] [] σ
  refine s_iload_n C dX10_feed_0 rfl ?_
  refine s_i2l C dX10_feed_1 (fun L1 tL1 => ?_)
  obtain ⟨L2, eL2⟩ : ∃ q : Int64, q = 32 := ⟨_, rfl⟩
  have tL2 : L2.toInt = 32 := by rw [eL2]; rfl
  refine s_ldc2 (v := L2) C dX10_feed_2 (by rw [eL2]; exact mw 1434 (by decide +kernel) rfl) ?_
  obtain ⟨L3, eL3⟩ : ∃ q : Int64, q = 126 := ⟨_, rfl⟩
  have tL3 : L3.toInt = 126 := by rw [eL3]; rfl
  refine s_ldc2 (v := L3) C dX10_feed_5 (by rw [eL3]; exact mw 1435 (by decide +kernel) rfl) ?_
  refine s_callSI (st := []) C (c_X10_in l ad σ L1 L2 L3 ) cv_X10_165 rfl rfl ⟨by decide, by decide⟩ (Nat.le_of_ble_eq_true rfl) dX10_feed_8 ?_
  intro r4 τ5 h6
  obtain ⟨eh6, h6⟩ := h6; replace eh6 := eh6.symm; subst eh6
  refine s_if_ne (tgt := 17) C dX10_feed_11 (by decide) (fun q7 => ?_) (fun q7 => ?_)
  · refine s_aload_n C dX10_feed_17 rfl ?_
    refine s_get (k := 17) (x := (σ.1 71 17)) C y71 fw_X10_247 rfl rfl dX10_feed_18 ?_
    refine s_bipush C dX10_feed_21 (by decide) (fun z8 tz8 => ?_)
    refine s_icmp_ne (tgt := 29) C dX10_feed_23 (by decide) (fun q9 => ?_) (fun q9 => ?_)
    · refine s_aload_n C dX10_feed_29 rfl ?_
      refine s_getr (k := 18) (j := 86) C y71 fw_X10_58 rfl dX10_feed_30 ?_
      refine s_aload_n C dX10_feed_33 rfl ?_
      refine s_get (k := 17) (x := (σ.1 71 17)) C y71 fw_X10_247 rfl rfl dX10_feed_34 ?_
      refine s_iload_n C dX10_feed_37 rfl ?_
      refine s_iast C y86 (by omega) dX10_feed_38 ?_
      refine s_aload_n C dX10_feed_39 rfl ?_
      refine s_dup C dX10_feed_40 rfl ?_
      refine s_get (k := 17) (x := (σ.1 71 17)) C y71 fw_X10_247 rfl rfl dX10_feed_41 ?_
      refine s_iconst C dX10_feed_44 (by decide) (fun z10 tz10 => ?_)
      refine s_iadd C dX10_feed_45 (by omega) (fun z11 tz11 => ?_)
      refine s_put (k := 17) C y71 fw_X10_247 fp_9_17 rfl dX10_feed_46 ?_
      refine s_aload_n C dX10_feed_49 rfl ?_
      refine s_get (k := 17) (x := z11) C y71 fw_X10_247 rfl rfl dX10_feed_50 ?_
      exact s_iret C X dX10_feed_53 ⟨⟨hI.1, hI.2.1, (by show 0 ≤ z11.toInt ∧ z11.toInt ≤ 60; omega), hI.2.2.2.1, hI.2.2.2.2.1, hI.2.2.2.2.2.1, hI.2.2.2.2.2.2⟩, (Fr.sV (Fr.sV Fr.rf (Or.inl (by decide))) (Or.inr (by decide))), Or.inr (Or.inr ⟨by omega, by omega, by omega, by show Int32.toInt z11 = _; omega⟩), (fun _ => rfl), fun q => by omega⟩
    · refine s_bipush C dX10_feed_26 (by decide) (fun z12 tz12 => ?_)
      exact s_iret C X dX10_feed_28 ⟨hI, Fr.rf, (by first | exact Or.inl ⟨by omega, by omega, rfl⟩ | exact Or.inr (Or.inl ⟨by omega, by omega, by omega, rfl⟩)), (fun q => by omega), fun _ => rfl⟩
  · refine s_bipush C dX10_feed_14 (by decide) (fun z13 tz13 => ?_)
    exact s_iret C X dX10_feed_16 ⟨hI, Fr.rf, (by first | exact Or.inl ⟨by omega, by omega, rfl⟩ | exact Or.inr (Or.inl ⟨by omega, by omega, by omega, rfl⟩)), (fun q => by omega), fun _ => rfl⟩
