set_option maxRecDepth 100000 in
theorem L_testEnds (l : Launch) (ad : Nat → Nat) (E : Ev) (σ : Sg) (o : List Bool) (C : Cx E l (rmk 0) 1 cX10_testEnds RX10) (X : Rx E ad none (oV (fun τ => Fr [] [(71, 49)] σ τ ∧ (τ.1 71 49).toInt = (te o).length)))  : ∀ (n : Nat) (τ : Sg) (p : List Bool), (Fr [] [(71, 49)] σ τ) → ((τ.1 71 49).toInt = p.length) → (Op (τ.1 109) p) → (te p = te o) → (p.length ≤ 8) → p.length < n → WP E ad 0 [some (.ref (ad 71))] [] τ := by
  intro n
  induction n with
  | zero => intro τ p kF hd ho hte h8 hm9; exact absurd hm9 (Nat.not_lt_zero _)
  | succ n ih =>
    intro τ p kF hd ho hte h8 hm9
    refine s_aload_n C dX10_testEnds_0 rfl ?_
    refine s_get (k := 49) (x := (τ.1 71 49)) C y71 fw_X10_260 rfl rfl dX10_testEnds_1 ?_
    refine s_if_le (tgt := 36) C dX10_testEnds_4 (by decide) (fun q1 => ?_) (fun q1 => ?_)
    · exact s_vret C X dX10_testEnds_36 ⟨kF, by rw [hd, ← hte]; cases p with | nil => rfl | cons b r => (simp at hd; omega)⟩
    · obtain ⟨b, r, rfl⟩ : ∃ b r, p = b :: r := by cases p with | nil => (simp at hd; omega) | cons b r => exact ⟨b, r, rfl⟩
      have hlen : ((b :: r).length : Int) = r.length + 1 := by simp
      have hob := Op_b ho
      refine s_aload_n C dX10_testEnds_7 rfl ?_
      refine s_getr (k := 48) (j := 109) C y71 fw_X10_128 rfl dX10_testEnds_8 ?_
      refine s_aload_n C dX10_testEnds_11 rfl ?_
      refine s_get (k := 49) (x := (τ.1 71 49)) C y71 fw_X10_260 rfl rfl dX10_testEnds_12 ?_
      refine s_iconst C dX10_testEnds_15 (by decide) (fun z2 tz2 => ?_)
      refine s_isub C dX10_testEnds_16 (by omega) (fun z3 tz3 => ?_)
      refine s_iald (r := (τ.1 109 z3.toNatClampNeg)) C y109 (by omega) rfl dX10_testEnds_17 ?_
      have hi : z3.toNatClampNeg = r.length := by unfold Int32.toNatClampNeg; omega
      refine s_bipush C dX10_testEnds_18 (by decide) (fun z4 tz4 => ?_)
      refine s_icmp_ne (tgt := 36) C dX10_testEnds_20 (by decide) (fun q5 => ?_) (fun q5 => ?_)
      · exact s_vret C X dX10_testEnds_36 ⟨kF, by have hbt : b = true := hob.2 (by rw [← hi]; omega); subst hbt; rw [hd, ← hte]; rfl⟩
      · refine s_aload_n C dX10_testEnds_23 rfl ?_
        refine s_dup C dX10_testEnds_24 rfl ?_
        refine s_get (k := 49) (x := (τ.1 71 49)) C y71 fw_X10_260 rfl rfl dX10_testEnds_25 ?_
        refine s_iconst C dX10_testEnds_28 (by decide) (fun z6 tz6 => ?_)
        refine s_isub C dX10_testEnds_29 (by omega) (fun z7 tz7 => ?_)
        refine s_put (k := 49) C y71 fw_X10_260 fp_9_49 rfl dX10_testEnds_30 ?_
        refine s_goto (tgt := 0) C dX10_testEnds_33 (by decide) ?_
        have hbf : b = false := hob.1 (by rw [← hi]; omega)
        subst hbf
        exact ih (sV τ 71 49 z7) r (Fr.sV (Fr.tr Fr.rf (Fr.mo kF (by decide) (by decide))) (Or.inr (by decide))) (by show Int32.toInt z7 = _; omega) ho.2 (by rw [← hte]; rfl) (by simp at h8; omega) (by show r.length < n; simp at hm9; omega)
set_option maxRecDepth 100000 in
theorem c_X10_testEnds (l : Launch) (ad : Nat → Nat) (σ : Sg) (o : List Bool) (hd : (σ.1 71 49).toInt = o.length) (ho : Op (σ.1 109) o) (h8 : o.length ≤ 8) : Mt l yX10_testEnds cX10_testEnds 1 none 0 ad σ [.ref (ad 71)] (oV (fun τ => Fr [] [(71, 49)] σ τ ∧ (τ.1 71 49).toInt = (te o).length)) := by
  refine Mt_intro (by decide +kernel) (by simp [lg_sl, Value.category]) (fun E C X => ?_)
  show WP E ad 0 [some (.ref (ad 71))] [] σ
  exact L_testEnds l ad E σ o C X 100 σ o Fr.rf hd ho rfl h8 (by omega)
set_option maxRecDepth 100000 in
theorem L_isOpen (l : Launch) (ad : Nat → Nat) (E : Ev) (σ : Sg) (o : List Bool) (hd : (σ.1 71 49).toInt = o.length) (ho : Op (σ.1 109) o) (h8 : o.length ≤ 8) (C : Cx E l (rmk 0) 2 cX10_isOpen RX10) (X : Rx E ad (some .boolean) (oI (fun r τ => τ = σ ∧ (r.toInt = 0 ∨ r.toInt = 1) ∧ (r.toInt = 1 ↔ true ∈ o))))  : ∀ (n : Nat) (z : Int32), (0 ≤ z.toInt) → (∀ k : Nat, (k : Int) < z.toInt → ¬ (σ.1 109 k).toInt = 40) → (8 - z.toInt).toNat < n → WP E ad 2 [some (.ref (ad 71)), some (.int z)] [] σ := by
  intro n
  induction n with
  | zero => intro z h0 hk hm9; exact absurd hm9 (Nat.not_lt_zero _)
  | succ n ih =>
    intro z h0 hk hm9
    refine s_iload_n C dX10_isOpen_2 rfl ?_
    refine s_aload_n C dX10_isOpen_3 rfl ?_
    refine s_get (k := 49) (x := (σ.1 71 49)) C y71 fw_X10_260 rfl rfl dX10_isOpen_4 ?_
    refine s_icmp_ge (tgt := 29) C dX10_isOpen_7 (by decide) (fun q1 => ?_) (fun q1 => ?_)
    · refine s_iconst C dX10_isOpen_29 (by decide) (fun z2 tz2 => ?_)
      exact s_zret C (by omega) X dX10_isOpen_30 ⟨rfl, by omega, ⟨fun q => by omega, fun q => absurd q (Op_all o ho (fun k hk2 => hk k (by omega)))⟩⟩
    · refine s_aload_n C dX10_isOpen_10 rfl ?_
      refine s_getr (k := 48) (j := 109) C y71 fw_X10_128 rfl dX10_isOpen_11 ?_
      refine s_iload_n C dX10_isOpen_14 rfl ?_
      refine s_iald (r := (σ.1 109 z.toNatClampNeg)) C y109 (by omega) rfl dX10_isOpen_15 ?_
      refine s_bipush C dX10_isOpen_16 (by decide) (fun z3 tz3 => ?_)
      refine s_icmp_ne (tgt := 23) C dX10_isOpen_18 (by decide) (fun q4 => ?_) (fun q4 => ?_)
      · refine s_iinc C dX10_isOpen_23 rfl (by decide) rfl (by decide) (by omega) (fun z5 tz5 => ?_)
        show WP E ad 26 [some (.ref (ad 71)), some (.int z5)] [] σ
        refine s_goto (tgt := 2) C dX10_isOpen_26 (by decide) ?_
        exact ih z5 (by omega) (fun k hk2 => by by_cases e : k = z.toNatClampNeg; (rw [e]; omega); (exact hk k (by unfold Int32.toNatClampNeg at e; omega))) (by omega)
      · refine s_iconst C dX10_isOpen_21 (by decide) (fun z6 tz6 => ?_)
        exact s_zret C (by omega) X dX10_isOpen_22 ⟨rfl, by omega, ⟨fun _ => Op_one o ho z.toNatClampNeg (by unfold Int32.toNatClampNeg; omega) (by omega), fun _ => by omega⟩⟩
set_option maxRecDepth 100000 in
theorem c_X10_isOpen (l : Launch) (ad : Nat → Nat) (σ : Sg) (o : List Bool) (hd : (σ.1 71 49).toInt = o.length) (ho : Op (σ.1 109) o) (h8 : o.length ≤ 8) : Mt l yX10_isOpen cX10_isOpen 2 (some .boolean) 0 ad σ [.ref (ad 71)] (oI (fun r τ => τ = σ ∧ (r.toInt = 0 ∨ r.toInt = 1) ∧ (r.toInt = 1 ↔ true ∈ o))) := by
  refine Mt_intro (by decide +kernel) (by simp [lg_sl, Value.category]) (fun E C X => ?_)
  show WP E ad 0 [some (.ref (ad 71)), none] [] σ
  refine s_iconst C dX10_isOpen_0 (by decide) (fun z1 tz1 => ?_)
  refine s_istore_n C dX10_isOpen_1 (by decide) (Nat.le_of_ble_eq_true rfl) rfl ?_
  show WP E ad 2 [some (.ref (ad 71)), some (.int z1)] [] σ
  exact L_isOpen l ad E σ o hd ho h8 C X 100 z1 (by omega) (fun k hk2 => by omega) (by omega)
set_option maxRecDepth 100000 in
theorem c_X10_behindUnit (l : Launch) (ad : Nat → Nat) (σ : Sg) (k : Int32) (hk : 0 ≤ k.toInt ∧ k.toInt ≤ 61) (htp : 0 ≤ (σ.1 71 17).toInt ∧ (σ.1 71 17).toInt ≤ 60) (hpr : 1 ≤ (σ.1 71 0).toInt ∧ (σ.1 71 0).toInt ≤ 4) : Mt l yX10_behindUnit cX10_behindUnit 3 (some .int) 2 ad σ [.ref (ad 71), .int k] (oI (fun r τ => τ = σ ∧ -70 ≤ r.toInt ∧ r.toInt ≤ 60 ∧ (0 ≤ r.toInt → k.toInt < r.toInt ∧ un (σ.1 71 0).toInt (σ.1 86) (σ.1 71 17).toInt.toNat k.toInt.toNat r.toInt.toNat))) := by
  have ek : Int32.toInt (σ.1 86 k.toNatClampNeg) = Int32.toInt (σ.1 86 k.toInt.toNat) := rfl
  refine Mt_intro (by decide +kernel) (by simp [lg_sl, Value.category]) (fun E C X => ?_)
  show WP E ad 0 [some (.ref (ad 71)), some (.int k), none] [] σ
  refine s_aload_n C dX10_behindUnit_0 rfl ?_
  refine s_iload_n C dX10_behindUnit_1 rfl ?_
  refine s_callVI (st := []) C (c_X10_tapeAt l ad σ k (by show 0 ≤ Int32.toInt k; omega) (by show 0 ≤ Int32.toInt (σ.1 71 17) ∧ Int32.toInt (σ.1 71 17) ≤ 60; omega)) cv_X10_254 y71 rfl rfl rfl ⟨by decide, by decide⟩ (Nat.le_of_ble_eq_true rfl) dX10_behindUnit_2 ?_
  intro r1 τ2 h3
  obtain ⟨eh3, h3⟩ := h3; replace eh3 := eh3.symm; subst eh3
  have ah3 : Int32.toInt k < Int32.toInt (σ.1 71 17) → Int32.toInt r1 = Int32.toInt (σ.1 86 k.toNatClampNeg) := fun q => congrArg Int32.toInt (h3.1 q)
  have bh3 : Int32.toInt (σ.1 71 17) ≤ Int32.toInt k → Int32.toInt r1 = -1 := h3.2
  clear h3
  refine s_istore_n C dX10_behindUnit_5 (by decide) (Nat.le_of_ble_eq_true rfl) rfl ?_
  show WP E ad 6 [some (.ref (ad 71)), some (.int k), some (.int r1)] [] σ
  refine s_iload_n C dX10_behindUnit_6 rfl ?_
  refine s_bipush C dX10_behindUnit_7 (by decide) (fun z4 tz4 => ?_)
  refine s_icmp_ne (tgt := 16) C dX10_behindUnit_9 (by decide) (fun q5 => ?_) (fun q5 => ?_)
  · refine s_iload_n C dX10_behindUnit_16 rfl ?_
    refine s_bipush C dX10_behindUnit_17 (by decide) (fun z6 tz6 => ?_)
    refine s_icmp_eq (tgt := 28) C dX10_behindUnit_19 (by decide) (fun q7 => ?_) (fun q7 => ?_)
    · refine s_aload_n C dX10_behindUnit_28 rfl ?_
      refine s_iload_n C dX10_behindUnit_29 rfl ?_
      refine s_iconst C dX10_behindUnit_30 (by decide) (fun z8 tz8 => ?_)
      refine s_iadd C dX10_behindUnit_31 (by omega) (fun z9 tz9 => ?_)
      refine s_callVI (st := []) C (c_X10_tapeAt l ad σ z9 (by show 0 ≤ Int32.toInt z9; omega) (by show 0 ≤ Int32.toInt (σ.1 71 17) ∧ Int32.toInt (σ.1 71 17) ≤ 60; omega)) cv_X10_254 y71 rfl rfl rfl ⟨by decide, by decide⟩ (Nat.le_of_ble_eq_true rfl) dX10_behindUnit_32 ?_
      intro r10 τ11 h12
      obtain ⟨eh12, h12⟩ := h12; replace eh12 := eh12.symm; subst eh12
      have ah12 : Int32.toInt z9 < Int32.toInt (σ.1 71 17) → Int32.toInt r10 = Int32.toInt (σ.1 86 z9.toNatClampNeg) := fun q => congrArg Int32.toInt (h12.1 q)
      have bh12 : Int32.toInt (σ.1 71 17) ≤ Int32.toInt z9 → Int32.toInt r10 = -1 := h12.2
      clear h12
      have ez : Int32.toInt (σ.1 86 z9.toNatClampNeg) = Int32.toInt (σ.1 86 (k.toInt.toNat + 1)) := by rw [show z9.toNatClampNeg = k.toInt.toNat + 1 by unfold Int32.toNatClampNeg; omega]
      refine s_i2l C dX10_behindUnit_35 (fun L13 tL13 => ?_)
      obtain ⟨L14, eL14⟩ : ∃ q : Int64, q = 48 := ⟨_, rfl⟩
      have tL14 : L14.toInt = 48 := by rw [eL14]; rfl
      refine s_ldc2 (v := L14) C dX10_behindUnit_36 (by rw [eL14]; exact mw 1341 (by decide +kernel) rfl) ?_
      refine s_bipush C dX10_behindUnit_39 (by decide) (fun z15 tz15 => ?_)
      refine s_aload_n C dX10_behindUnit_41 rfl ?_
      refine s_get (k := 0) (x := (σ.1 71 0)) C y71 fw_X10_9 rfl rfl dX10_behindUnit_42 ?_
      refine s_iadd C dX10_behindUnit_45 (by omega) (fun z16 tz16 => ?_)
      refine s_iconst C dX10_behindUnit_46 (by decide) (fun z17 tz17 => ?_)
      refine s_isub C dX10_behindUnit_47 (by omega) (fun z18 tz18 => ?_)
      refine s_i2l C dX10_behindUnit_48 (fun L19 tL19 => ?_)
      refine s_callSI (st := []) C (c_X10_in l ad σ L13 L14 L19 ) cv_X10_165 rfl rfl ⟨by decide, by decide⟩ (Nat.le_of_ble_eq_true rfl) dX10_behindUnit_49 ?_
      intro r20 τ21 h22
      obtain ⟨eh22, h22⟩ := h22; replace eh22 := eh22.symm; subst eh22
      refine s_if_eq (tgt := 61) C dX10_behindUnit_52 (by decide) (fun q23 => ?_) (fun q23 => ?_)
      · refine s_bipush C dX10_behindUnit_61 (by decide) (fun z24 tz24 => ?_)
        refine s_iload_n C dX10_behindUnit_63 rfl ?_
        refine s_isub C dX10_behindUnit_64 (by omega) (fun z25 tz25 => ?_)
        exact s_iret C X dX10_behindUnit_65 ⟨rfl, by omega, by omega, fun q => ⟨by omega, (by unfold un; omega)⟩⟩
      · refine s_iload_n C dX10_behindUnit_55 rfl ?_
        refine s_iconst C dX10_behindUnit_56 (by decide) (fun z26 tz26 => ?_)
        refine s_iadd C dX10_behindUnit_57 (by omega) (fun z27 tz27 => ?_)
        refine s_goto (tgt := 65) C dX10_behindUnit_58 (by decide) ?_
        exact s_iret C X dX10_behindUnit_65 ⟨rfl, by omega, by omega, fun q => ⟨by omega, (by unfold un; omega)⟩⟩
    · refine s_iload_n C dX10_behindUnit_22 rfl ?_
      refine s_bipush C dX10_behindUnit_23 (by decide) (fun z28 tz28 => ?_)
      refine s_icmp_ne (tgt := 66) C dX10_behindUnit_25 (by decide) (fun q29 => ?_) (fun q29 => ?_)
      · refine s_iload_n C dX10_behindUnit_66 rfl ?_
        refine s_callSI (st := []) C (c_X10_isFigure l ad σ r1 ) cv_X10_257 rfl rfl ⟨by decide, by decide⟩ (Nat.le_of_ble_eq_true rfl) dX10_behindUnit_67 ?_
        intro r30 τ31 h32
        obtain ⟨eh32, h32⟩ := h32; replace eh32 := eh32.symm; subst eh32
        refine s_if_ne (tgt := 77) C dX10_behindUnit_70 (by decide) (fun q33 => ?_) (fun q33 => ?_)
        · refine s_aload_n C dX10_behindUnit_77 rfl ?_
          refine s_iload_n C dX10_behindUnit_78 rfl ?_
          refine s_iconst C dX10_behindUnit_79 (by decide) (fun z34 tz34 => ?_)
          refine s_iadd C dX10_behindUnit_80 (by omega) (fun z35 tz35 => ?_)
          refine s_callVI (st := []) C (c_X10_tapeAt l ad σ z35 (by show 0 ≤ Int32.toInt z35; omega) (by show 0 ≤ Int32.toInt (σ.1 71 17) ∧ Int32.toInt (σ.1 71 17) ≤ 60; omega)) cv_X10_254 y71 rfl rfl rfl ⟨by decide, by decide⟩ (Nat.le_of_ble_eq_true rfl) dX10_behindUnit_81 ?_
          intro r36 τ37 h38
          obtain ⟨eh38, h38⟩ := h38; replace eh38 := eh38.symm; subst eh38
          have ah38 : Int32.toInt z35 < Int32.toInt (σ.1 71 17) → Int32.toInt r36 = Int32.toInt (σ.1 86 z35.toNatClampNeg) := fun q => congrArg Int32.toInt (h38.1 q)
          have bh38 : Int32.toInt (σ.1 71 17) ≤ Int32.toInt z35 → Int32.toInt r36 = -1 := h38.2
          clear h38
          have ez : Int32.toInt (σ.1 86 z35.toNatClampNeg) = Int32.toInt (σ.1 86 (k.toInt.toNat + 1)) := by rw [show z35.toNatClampNeg = k.toInt.toNat + 1 by unfold Int32.toNatClampNeg; omega]
          refine s_callSI (st := []) C (c_X10_isFigure l ad σ r36 ) cv_X10_257 rfl rfl ⟨by decide, by decide⟩ (Nat.le_of_ble_eq_true rfl) dX10_behindUnit_84 ?_
          intro r39 τ40 h41
          obtain ⟨eh41, h41⟩ := h41; replace eh41 := eh41.symm; subst eh41
          refine s_if_eq (tgt := 96) C dX10_behindUnit_87 (by decide) (fun q42 => ?_) (fun q42 => ?_)
          · refine s_iload_n C dX10_behindUnit_96 rfl ?_
            refine s_iconst C dX10_behindUnit_97 (by decide) (fun z43 tz43 => ?_)
            refine s_iadd C dX10_behindUnit_98 (by omega) (fun z44 tz44 => ?_)
            exact s_iret C X dX10_behindUnit_99 ⟨rfl, by omega, by omega, fun q => ⟨by omega, (by unfold un; omega)⟩⟩
          · refine s_iload_n C dX10_behindUnit_90 rfl ?_
            refine s_iconst C dX10_behindUnit_91 (by decide) (fun z45 tz45 => ?_)
            refine s_iadd C dX10_behindUnit_92 (by omega) (fun z46 tz46 => ?_)
            refine s_goto (tgt := 99) C dX10_behindUnit_93 (by decide) ?_
            exact s_iret C X dX10_behindUnit_99 ⟨rfl, by omega, by omega, fun q => ⟨by omega, (by unfold un; omega)⟩⟩
        · refine s_iconst C dX10_behindUnit_73 (by decide) (fun z47 tz47 => ?_)
          refine s_iload_n C dX10_behindUnit_74 rfl ?_
          refine s_isub C dX10_behindUnit_75 (by omega) (fun z48 tz48 => ?_)
          exact s_iret C X dX10_behindUnit_76 ⟨rfl, by omega, by omega, fun q => ⟨by omega, (by unfold un; omega)⟩⟩
      · refine s_aload_n C dX10_behindUnit_28 rfl ?_
        refine s_iload_n C dX10_behindUnit_29 rfl ?_
        refine s_iconst C dX10_behindUnit_30 (by decide) (fun z49 tz49 => ?_)
        refine s_iadd C dX10_behindUnit_31 (by omega) (fun z50 tz50 => ?_)
        refine s_callVI (st := []) C (c_X10_tapeAt l ad σ z50 (by show 0 ≤ Int32.toInt z50; omega) (by show 0 ≤ Int32.toInt (σ.1 71 17) ∧ Int32.toInt (σ.1 71 17) ≤ 60; omega)) cv_X10_254 y71 rfl rfl rfl ⟨by decide, by decide⟩ (Nat.le_of_ble_eq_true rfl) dX10_behindUnit_32 ?_
        intro r51 τ52 h53
        obtain ⟨eh53, h53⟩ := h53; replace eh53 := eh53.symm; subst eh53
        have ah53 : Int32.toInt z50 < Int32.toInt (σ.1 71 17) → Int32.toInt r51 = Int32.toInt (σ.1 86 z50.toNatClampNeg) := fun q => congrArg Int32.toInt (h53.1 q)
        have bh53 : Int32.toInt (σ.1 71 17) ≤ Int32.toInt z50 → Int32.toInt r51 = -1 := h53.2
        clear h53
        have ez : Int32.toInt (σ.1 86 z50.toNatClampNeg) = Int32.toInt (σ.1 86 (k.toInt.toNat + 1)) := by rw [show z50.toNatClampNeg = k.toInt.toNat + 1 by unfold Int32.toNatClampNeg; omega]
        refine s_i2l C dX10_behindUnit_35 (fun L54 tL54 => ?_)
        obtain ⟨L55, eL55⟩ : ∃ q : Int64, q = 48 := ⟨_, rfl⟩
        have tL55 : L55.toInt = 48 := by rw [eL55]; rfl
        refine s_ldc2 (v := L55) C dX10_behindUnit_36 (by rw [eL55]; exact mw 1341 (by decide +kernel) rfl) ?_
        refine s_bipush C dX10_behindUnit_39 (by decide) (fun z56 tz56 => ?_)
        refine s_aload_n C dX10_behindUnit_41 rfl ?_
        refine s_get (k := 0) (x := (σ.1 71 0)) C y71 fw_X10_9 rfl rfl dX10_behindUnit_42 ?_
        refine s_iadd C dX10_behindUnit_45 (by omega) (fun z57 tz57 => ?_)
        refine s_iconst C dX10_behindUnit_46 (by decide) (fun z58 tz58 => ?_)
        refine s_isub C dX10_behindUnit_47 (by omega) (fun z59 tz59 => ?_)
        refine s_i2l C dX10_behindUnit_48 (fun L60 tL60 => ?_)
        refine s_callSI (st := []) C (c_X10_in l ad σ L54 L55 L60 ) cv_X10_165 rfl rfl ⟨by decide, by decide⟩ (Nat.le_of_ble_eq_true rfl) dX10_behindUnit_49 ?_
        intro r61 τ62 h63
        obtain ⟨eh63, h63⟩ := h63; replace eh63 := eh63.symm; subst eh63
        refine s_if_eq (tgt := 61) C dX10_behindUnit_52 (by decide) (fun q64 => ?_) (fun q64 => ?_)
        · refine s_bipush C dX10_behindUnit_61 (by decide) (fun z65 tz65 => ?_)
          refine s_iload_n C dX10_behindUnit_63 rfl ?_
          refine s_isub C dX10_behindUnit_64 (by omega) (fun z66 tz66 => ?_)
          exact s_iret C X dX10_behindUnit_65 ⟨rfl, by omega, by omega, fun q => ⟨by omega, (by unfold un; omega)⟩⟩
        · refine s_iload_n C dX10_behindUnit_55 rfl ?_
          refine s_iconst C dX10_behindUnit_56 (by decide) (fun z67 tz67 => ?_)
          refine s_iadd C dX10_behindUnit_57 (by omega) (fun z68 tz68 => ?_)
          refine s_goto (tgt := 65) C dX10_behindUnit_58 (by decide) ?_
          exact s_iret C X dX10_behindUnit_65 ⟨rfl, by omega, by omega, fun q => ⟨by omega, (by unfold un; omega)⟩⟩
  · refine s_iload_n C dX10_behindUnit_12 rfl ?_
    refine s_iconst C dX10_behindUnit_13 (by decide) (fun z69 tz69 => ?_)
    refine s_iadd C dX10_behindUnit_14 (by omega) (fun z70 tz70 => ?_)
    exact s_iret C X dX10_behindUnit_15 ⟨rfl, by omega, by omega, fun q => ⟨by omega, (by unfold un; omega)⟩⟩
