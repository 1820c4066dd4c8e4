theorem img_keep {σ τ : Sg} (hI : IM σ.1) (a : ∀ i ∈ [90, 96, 91, 93, 97, 98, 99, 95, 101, 102], τ.1 i = σ.1 i) (f : ∀ k ∈ [21, 22, 30, 32], τ.1 71 k = σ.1 71 k) : ¬ (τ.1 71 21).toInt = 0 → RC (τ.1 71 22) (τ.1 71 30) (τ.1 71 32) (τ.1 90) (τ.1 96) (τ.1 91) (τ.1 93) (τ.1 97) (τ.1 98) (τ.1 99) ∧ CK (τ.1 71 30) (τ.1 96) (τ.1 95) ∧ TX (τ.1 71 22) (τ.1 101) (τ.1 102) := by
  rw [f 21 (by decide), f 22 (by decide), f 30 (by decide), f 32 (by decide), a 90 (by decide), a 96 (by decide), a 91 (by decide), a 93 (by decide), a 97 (by decide), a 98 (by decide), a 99 (by decide), a 95 (by decide), a 101 (by decide), a 102 (by decide)]
  exact hI.2.2.2.2.2.2
/-- one event more, whole -/
theorem im_grow {σ υ : Sg} (hI : IM σ.1) {p w m k : Int32} {E : Nat} (hp : 0 ≤ p.toInt ∧ p.toInt ≤ 3) (hpp : p.toInt < (σ.1 71 0).toInt) (hf : (σ.1 73 p.toNatClampNeg).toInt < 5) (hF : Fr [73, 74, 75, 76, 77, 78, 79, 80, 81, 82, 83] [(71, 8), (71, 10), (71, 39)] σ υ) (hk : k.toInt = (σ.1 73 p.toNatClampNeg).toInt + 1) (he : E = 5 * p.toNatClampNeg + (σ.1 73 p.toNatClampNeg).toInt.toNat) (e73 : υ.1 73 = upd (σ.1 73) p.toNatClampNeg k) (e74 : υ.1 74 = upd (σ.1 74) E w) (e76 : υ.1 76 = upd (σ.1 76) E m) (e79 : υ.1 79 = upd (σ.1 79) (σ.1 71 8).toNatClampNeg p) (t8 : (υ.1 71 8).toInt = (σ.1 71 8).toInt + 1) (t39 : (υ.1 71 39).toInt = 0)
    (cb : ∀ j, 0 ≤ (υ.1 78 j).toInt ∧ (υ.1 78 j).toInt ≤ 5) (co : ∀ j, ¬ (4 * E ≤ j ∧ j < 4 * E + 4) → υ.1 78 j = σ.1 78 j) (cq : ∀ q : Nat, q < 4 → (υ.1 78 (4 * E + q)).toInt ≤ (if q = p.toNatClampNeg then k.toInt else cn (σ.1 79) q (σ.1 71 8).toInt.toNat))
    (hm : w.toInt = 2 → 0 ≤ m.toInt ∧ m.toInt ≤ 7) (hms : (υ.1 71 10).toInt = (σ.1 71 10).toInt + (if w.toInt = 1 then 1 else 0)) (hm8 : (υ.1 71 10).toInt ≤ 8) (hsn : ∀ j, 0 ≤ (υ.1 80 j).toInt ∧ (υ.1 80 j).toInt ≤ 3) (htk : ∀ j, -5 ≤ (υ.1 82 j).toInt ∧ (υ.1 82 j).toInt ≤ 3) (hold : ∀ j : Nat, (j : Int) < (σ.1 71 10).toInt → υ.1 80 j = σ.1 80 j ∧ υ.1 81 j = σ.1 81 j) (hnew : w.toInt = 1 → (υ.1 80 (σ.1 71 10).toInt.toNat).toInt = p.toInt ∧ (υ.1 81 (σ.1 71 10).toInt.toNat).toInt = k.toInt) : IM υ.1 := by
  have f : ∀ q, (71, q) ∉ [(71, 8), (71, 10), (71, 39)] → υ.1 71 q = σ.1 71 q := fun q h => hF.f 71 q (by decide) h
  have a : ∀ i, i ∉ [73, 74, 75, 76, 77, 78, 79, 80, 81, 82, 83] → i ≠ 71 → υ.1 i = σ.1 i := fun i h1 h2 => hF.a i h1 (by intro x hx; simp at hx; rcases hx with rfl | rfl | rfl <;> exact fun q => h2 q.symm)
  refine ⟨?_, ?_, ?_, ?_, ?_, ?_, ?_⟩
  · rw [f 0 (by decide), e73, e74, e76, e79]
    exact rc_grow hI.1 hp hpp hf t8 hk he hm hms hm8 hsn htk hold hnew
  · rw [e79]
    exact ck_grow hI.1 hI.2.1 hp hf t8 hk he cb co cq
  · rw [f 17 (by decide)]; exact hI.tp
  · rw [a 87 (by decide) (by decide)]; exact hI.ls
  · rw [f 0 (by decide), a 84 (by decide) (by decide), a 85 (by decide) (by decide)]; exact hI.tx
  · rw [f 40 (by decide), a 103 (by decide) (by decide), a 104 (by decide) (by decide), a 105 (by decide) (by decide)]; exact cu_off hI.cu t39
  · exact img_keep hI (fun i hi => a i (by simp at hi ⊢; omega) (by simp at hi; omega)) (fun k hk => f k (by simp at hk ⊢; omega))
set_option maxRecDepth 100000 in
theorem c_X10_step (l : Launch) (ad : Nat → Nat) (σ : Sg) (p v : Int32) (hI : IM σ.1) : Mt l yX10_step cX10_step 3 (some .int) 2 ad σ [.ref (ad 71), .int p, .int v] (oI (fun r τ => IM τ.1 ∧ Fr [73, 74, 75, 76, 77, 78, 79, 80, 81, 82, 83] [(71, 8), (71, 10), (71, 39)] σ τ)) := by
  have hpr := hI.pr
  have htot := hI.tot
  have hms := hI.ms
  have htp := hI.tp
  refine Mt_intro (by decide +kernel) (by simp [lg_sl, Value.category]) (fun E C X => ?_)
  show WP E ad 0 [some (.ref (ad 71)), some (.int p), some (.int v)] [] σ
  refine s_aload_n C dX10_step_0 rfl ?_
  refine s_iload_n C dX10_step_1 rfl ?_
  refine s_callVI (st := []) C (c_X10_isProcess l ad σ p (by omega)) cv_X10_169 y71 rfl rfl rfl ⟨by decide, by decide⟩ (Nat.le_of_ble_eq_true rfl) dX10_step_2 ?_
  intro r1 τ2 h3
  obtain ⟨eh3, h3⟩ := h3; replace eh3 := eh3.symm; subst eh3
  refine s_if_ne (tgt := 10) C dX10_step_5 (by decide) (fun q4 => ?_) (fun q4 => ?_)
  · refine s_iload_n C dX10_step_10 rfl ?_
    refine s_i2l C dX10_step_11 (fun L5 tL5 => ?_)
    obtain ⟨L6, eL6⟩ : ∃ q : Int64, q = -99 := ⟨_, rfl⟩
    have tL6 : L6.toInt = -99 := by rw [eL6]; rfl
    refine s_ldc2 (v := L6) C dX10_step_12 (by rw [eL6]; exact mw 1194 (by decide +kernel) rfl) ?_
    obtain ⟨L7, eL7⟩ : ∃ q : Int64, q = 99 := ⟨_, rfl⟩
    have tL7 : L7.toInt = 99 := by rw [eL7]; rfl
    refine s_ldc2 (v := L7) C dX10_step_15 (by rw [eL7]; exact mw 1195 (by decide +kernel) rfl) ?_
    refine s_callSI (st := []) C (c_X10_in l ad σ L5 L6 L7 ) cv_X10_165 rfl rfl ⟨by decide, by decide⟩ (Nat.le_of_ble_eq_true rfl) dX10_step_18 ?_
    intro r8 τ9 h10
    obtain ⟨eh10, h10⟩ := h10; replace eh10 := eh10.symm; subst eh10
    refine s_if_ne (tgt := 27) C dX10_step_21 (by decide) (fun q11 => ?_) (fun q11 => ?_)
    · have hlt := fun h => rc_lt hI.1 (p := p) (by omega) h
      refine s_aload_n C dX10_step_27 rfl ?_
      refine s_getr (k := 2) (j := 73) C y71 fw_X10_19 rfl dX10_step_28 ?_
      refine s_iload_n C dX10_step_31 rfl ?_
      refine s_iald (r := (σ.1 73 p.toNatClampNeg)) C y73 (by omega) rfl dX10_step_32 ?_
      have b12 := hI.ev p.toNatClampNeg
      refine s_iconst C dX10_step_33 (by decide) (fun z13 tz13 => ?_)
      refine s_icmp_ne (tgt := 42) C dX10_step_34 (by decide) (fun q14 => ?_) (fun q14 => ?_)
      · refine s_aload_n C dX10_step_42 rfl ?_
        refine s_iload_n C dX10_step_43 rfl ?_
        refine s_iconst C dX10_step_44 (by decide) (fun z15 tz15 => ?_)
        refine s_iload_n C dX10_step_45 rfl ?_
        refine s_bipush C dX10_step_46 (by decide) (fun z16 tz16 => ?_)
        refine s_callVI (st := []) C (c_X10_comes l ad σ p z15 v z16 (fun q => (cn (σ.1 79) q (σ.1 71 8).toInt.toNat : Int)) (by omega) hI.ev (by show Int32.toInt (σ.1 73 p.toNatClampNeg) < 5; omega) (by show 0 ≤ Int32.toInt (σ.1 71 8) ∧ Int32.toInt (σ.1 71 8) < 20; have := hlt (by omega); omega) hI.ck (fun q _ => Int.natCast_nonneg _) (fun h1 q hq => ck_prev hI.1 hI.2.1 (by unfold Int32.toNatClampNeg; omega) h1 hq) (fun h => by omega)) cv_X10_198 y71 rfl rfl rfl ⟨by decide, by decide⟩ (Nat.le_of_ble_eq_true rfl) dX10_step_48 ?_
        intro r17 τ18 h19
        obtain ⟨hC, kk, EE, c1, c2, c3, c4, c5, c6, c7, c8, c9, c10, c11, c12⟩ := h19
        exact s_iret C X dX10_step_51 ⟨im_grow hI (p := p) (by omega) (by omega) (by omega) (Fr.tr Fr.rf (Fr.mo hC (by decide) (by decide))) c1 c3 c4 c5 c6 c7 c8 c9 c10 c11 c12 (fun h => by omega) (by rw [if_neg (by omega), hC.f 71 10 (by decide) (by decide)]; omega) (by rw [hC.f 71 10 (by decide) (by decide)]; omega) (by rw [hC.a 80 (by decide) (by decide)]; exact hI.fp) (by rw [hC.a 82 (by decide) (by decide)]; exact hI.tk) (fun j _ => by rw [hC.a 80 (by decide) (by decide), hC.a 81 (by decide) (by decide)]; exact ⟨rfl, rfl⟩) (fun h => by omega), (Fr.tr Fr.rf (Fr.mo hC (by decide) (by decide)))⟩
      · refine s_bipush C dX10_step_37 (by decide) (fun z20 tz20 => ?_)
        refine s_goto (tgt := 51) C dX10_step_39 (by decide) ?_
        exact s_iret C X dX10_step_51 ⟨hI, Fr.rf⟩
    · refine s_bipush C dX10_step_24 (by decide) (fun z21 tz21 => ?_)
      exact s_iret C X dX10_step_26 ⟨hI, Fr.rf⟩
  · refine s_iconst C dX10_step_8 (by decide) (fun z22 tz22 => ?_)
    exact s_iret C X dX10_step_9 ⟨hI, Fr.rf⟩
set_option maxRecDepth 100000 in
theorem c_X10_take (l : Launch) (ad : Nat → Nat) (σ : Sg) (p m v : Int32) (hI : IM σ.1) : Mt l yX10_take cX10_take 5 (some .int) 2 ad σ [.ref (ad 71), .int p, .int m, .int v] (oI (fun r τ => IM τ.1 ∧ Fr [73, 74, 75, 76, 77, 78, 79, 80, 81, 82, 83] [(71, 8), (71, 10), (71, 39)] σ τ)) := by
  have hpr := hI.pr
  have htot := hI.tot
  have hms := hI.ms
  have htp := hI.tp
  refine Mt_intro (by decide +kernel) (by simp [lg_sl, Value.category]) (fun E C X => ?_)
  show WP E ad 0 [some (.ref (ad 71)), some (.int p), some (.int m), some (.int v), none] [] σ
  refine s_aload_n C dX10_take_0 rfl ?_
  refine s_iload_n C dX10_take_1 rfl ?_
  refine s_callVI (st := []) C (c_X10_isProcess l ad σ p (by omega)) cv_X10_169 y71 rfl rfl rfl ⟨by decide, by decide⟩ (Nat.le_of_ble_eq_true rfl) dX10_take_2 ?_
  intro r1 τ2 h3
  obtain ⟨eh3, h3⟩ := h3; replace eh3 := eh3.symm; subst eh3
  refine s_if_eq (tgt := 24) C dX10_take_5 (by decide) (fun q4 => ?_) (fun q4 => ?_)
  · refine s_iconst C dX10_take_24 (by decide) (fun z5 tz5 => ?_)
    exact s_iret C X dX10_take_25 ⟨hI, Fr.rf⟩
  · refine s_iload_n C dX10_take_8 rfl ?_
    refine s_i2l C dX10_take_9 (fun L6 tL6 => ?_)
    refine s_lconst C dX10_take_10 rfl (fun L7 tL7 => ?_)
    have tL7 : L7.toInt = 0 := tL7
    refine s_aload_n C dX10_take_11 rfl ?_
    refine s_get (k := 10) (x := (σ.1 71 10)) C y71 fw_X10_178 rfl rfl dX10_take_12 ?_
    refine s_iconst C dX10_take_15 (by decide) (fun z8 tz8 => ?_)
    refine s_isub C dX10_take_16 (by omega) (fun z9 tz9 => ?_)
    refine s_i2l C dX10_take_17 (fun L10 tL10 => ?_)
    refine s_callSI (st := []) C (c_X10_in l ad σ L6 L7 L10 ) cv_X10_165 rfl rfl ⟨by decide, by decide⟩ (Nat.le_of_ble_eq_true rfl) dX10_take_18 ?_
    intro r11 τ12 h13
    obtain ⟨eh13, h13⟩ := h13; replace eh13 := eh13.symm; subst eh13
    refine s_if_ne (tgt := 26) C dX10_take_21 (by decide) (fun q14 => ?_) (fun q14 => ?_)
    · refine s_iload_n C dX10_take_26 rfl ?_
      refine s_i2l C dX10_take_27 (fun L15 tL15 => ?_)
      obtain ⟨L16, eL16⟩ : ∃ q : Int64, q = -99 := ⟨_, rfl⟩
      have tL16 : L16.toInt = -99 := by rw [eL16]; rfl
      refine s_ldc2 (v := L16) C dX10_take_28 (by rw [eL16]; exact mw 1194 (by decide +kernel) rfl) ?_
      obtain ⟨L17, eL17⟩ : ∃ q : Int64, q = 99 := ⟨_, rfl⟩
      have tL17 : L17.toInt = 99 := by rw [eL17]; rfl
      refine s_ldc2 (v := L17) C dX10_take_31 (by rw [eL17]; exact mw 1195 (by decide +kernel) rfl) ?_
      refine s_callSI (st := []) C (c_X10_in l ad σ L15 L16 L17 ) cv_X10_165 rfl rfl ⟨by decide, by decide⟩ (Nat.le_of_ble_eq_true rfl) dX10_take_34 ?_
      intro r18 τ19 h20
      obtain ⟨eh20, h20⟩ := h20; replace eh20 := eh20.symm; subst eh20
      refine s_if_ne (tgt := 43) C dX10_take_37 (by decide) (fun q21 => ?_) (fun q21 => ?_)
      · refine s_aload_n C dX10_take_43 rfl ?_
        refine s_getr (k := 13) (j := 82) C y71 fw_X10_46 rfl dX10_take_44 ?_
        refine s_iload_n C dX10_take_47 rfl ?_
        refine s_iald (r := (σ.1 82 m.toNatClampNeg)) C y82 (by omega) rfl dX10_take_48 ?_
        have b22 := hI.tk m.toNatClampNeg
        refine s_if_lt (tgt := 55) C dX10_take_49 (by decide) (fun q23 => ?_) (fun q23 => ?_)
        · have hlt := fun h => rc_lt hI.1 (p := p) (by omega) h
          have hmn : ((m.toNatClampNeg : Nat) : Int) = m.toInt := by unfold Int32.toNatClampNeg; omega
          obtain ⟨tt, ht1, ht2, ht3, ht4, ht5, ht6⟩ := rc_from hI.1 (m := m.toNatClampNeg) (by omega)
          have hfpm := hI.fp m.toNatClampNeg
          refine s_aload_n C dX10_take_55 rfl ?_
          refine s_getr (k := 2) (j := 73) C y71 fw_X10_19 rfl dX10_take_56 ?_
          refine s_iload_n C dX10_take_59 rfl ?_
          refine s_iald (r := (σ.1 73 p.toNatClampNeg)) C y73 (by omega) rfl dX10_take_60 ?_
          have b24 := hI.ev p.toNatClampNeg
          refine s_iconst C dX10_take_61 (by decide) (fun z25 tz25 => ?_)
          refine s_icmp_ne (tgt := 68) C dX10_take_62 (by decide) (fun q26 => ?_) (fun q26 => ?_)
          · refine s_aload_n C dX10_take_68 rfl ?_
            refine s_iload_n C dX10_take_69 rfl ?_
            refine s_iconst C dX10_take_70 (by decide) (fun z27 tz27 => ?_)
            refine s_iload_n C dX10_take_71 rfl ?_
            refine s_iload_n C dX10_take_72 rfl ?_
            refine s_callVI (st := []) C (c_X10_comes l ad σ p z27 v m (fun q => (cn (σ.1 79) q (σ.1 71 8).toInt.toNat : Int)) (by omega) hI.ev (by show Int32.toInt (σ.1 73 p.toNatClampNeg) < 5; omega) (by show 0 ≤ Int32.toInt (σ.1 71 8) ∧ Int32.toInt (σ.1 71 8) < 20; have := hlt (by omega); omega) hI.ck (fun q _ => Int.natCast_nonneg _) (fun h1 q hq => ck_prev hI.1 hI.2.1 (by unfold Int32.toNatClampNeg; omega) h1 hq) (fun _ => ⟨⟨by omega, by omega, by omega, by omega, by omega, by omega⟩, fun q hq => ck_from hI.1 hI.2.1 (by omega) hq⟩)) cv_X10_198 y71 rfl rfl rfl ⟨by decide, by decide⟩ (Nat.le_of_ble_eq_true rfl) dX10_take_73 ?_
            intro r28 τ29 h30
            obtain ⟨hC, kk, EE, c1, c2, c3, c4, c5, c6, c7, c8, c9, c10, c11, c12⟩ := h30
            refine s_istore C dX10_take_76 (by decide) (Nat.le_of_ble_eq_true rfl) rfl ?_
            show WP E ad 78 [some (.ref (ad 71)), some (.int p), some (.int m), some (.int v), some (.int r28)] [] τ29
            refine s_aload_n C dX10_take_78 rfl ?_
            refine s_getr (k := 13) (j := 82) C y71 fw_X10_46 rfl dX10_take_79 ?_
            refine s_iload_n C dX10_take_82 rfl ?_
            refine s_iload_n C dX10_take_83 rfl ?_
            refine s_iast C y82 (by omega) dX10_take_84 ?_
            refine s_aload_n C dX10_take_85 rfl ?_
            refine s_getr (k := 14) (j := 83) C y71 fw_X10_49 rfl dX10_take_86 ?_
            refine s_iload_n C dX10_take_89 rfl ?_
            refine s_iload C dX10_take_90 rfl ?_
            refine s_iast C y83 (by omega) dX10_take_92 ?_
            refine s_iload C dX10_take_93 rfl ?_
            exact s_iret C X dX10_take_95 ⟨im_grow hI (p := p) (by omega) (by omega) (by omega) (Fr.sV (Fr.sV (Fr.tr Fr.rf (Fr.mo hC (by decide) (by decide))) (Or.inl (by decide))) (Or.inl (by decide))) c1 c3 c4 c5 c6 c7 c8 c9 c10 c11 c12 (fun h => by omega) (by show Int32.toInt (_ : Int32) = _; rw [if_neg (by omega)]; show Int32.toInt (τ29.1 71 10) = _; rw [hC.f 71 10 (by decide) (by decide)]; omega) (by show Int32.toInt (τ29.1 71 10) ≤ 8; rw [hC.f 71 10 (by decide) (by decide)]; omega) (by show ∀ j, 0 ≤ (τ29.1 80 j).toInt ∧ (τ29.1 80 j).toInt ≤ 3; rw [hC.a 80 (by decide) (by decide)]; exact hI.fp) (up_iv (by rw [hC.a 82 (by decide) (by decide)]; exact hI.tk) _ (by omega)) (fun j _ => by show τ29.1 80 j = _ ∧ τ29.1 81 j = _; rw [hC.a 80 (by decide) (by decide), hC.a 81 (by decide) (by decide)]; exact ⟨rfl, rfl⟩) (fun h => by omega), (Fr.sV (Fr.sV (Fr.tr Fr.rf (Fr.mo hC (by decide) (by decide))) (Or.inl (by decide))) (Or.inl (by decide)))⟩
          · refine s_bipush C dX10_take_65 (by decide) (fun z31 tz31 => ?_)
            exact s_iret C X dX10_take_67 ⟨hI, Fr.rf⟩
        · refine s_bipush C dX10_take_52 (by decide) (fun z32 tz32 => ?_)
          exact s_iret C X dX10_take_54 ⟨hI, Fr.rf⟩
      · refine s_bipush C dX10_take_40 (by decide) (fun z33 tz33 => ?_)
        exact s_iret C X dX10_take_42 ⟨hI, Fr.rf⟩
    · refine s_iconst C dX10_take_24 (by decide) (fun z34 tz34 => ?_)
      exact s_iret C X dX10_take_25 ⟨hI, Fr.rf⟩
set_option maxRecDepth 100000 in
theorem c_X10_send (l : Launch) (ad : Nat → Nat) (σ : Sg) (p v : Int32) (hI : IM σ.1) : Mt l yX10_send cX10_send 4 (some .int) 2 ad σ [.ref (ad 71), .int p, .int v] (oI (fun r τ => IM τ.1 ∧ Fr [73, 74, 75, 76, 77, 78, 79, 80, 81, 82, 83] [(71, 8), (71, 10), (71, 39)] σ τ)) := by
  have hpr := hI.pr
  have htot := hI.tot
  have hms := hI.ms
  have htp := hI.tp
  refine Mt_intro (by decide +kernel) (by simp [lg_sl, Value.category]) (fun E C X => ?_)
  show WP E ad 0 [some (.ref (ad 71)), some (.int p), some (.int v), none] [] σ
  refine s_aload_n C dX10_send_0 rfl ?_
  refine s_iload_n C dX10_send_1 rfl ?_
  refine s_callVI (st := []) C (c_X10_isProcess l ad σ p (by omega)) cv_X10_169 y71 rfl rfl rfl ⟨by decide, by decide⟩ (Nat.le_of_ble_eq_true rfl) dX10_send_2 ?_
  intro r1 τ2 h3
  obtain ⟨eh3, h3⟩ := h3; replace eh3 := eh3.symm; subst eh3
  refine s_if_ne (tgt := 10) C dX10_send_5 (by decide) (fun q4 => ?_) (fun q4 => ?_)
  · refine s_iload_n C dX10_send_10 rfl ?_
    refine s_i2l C dX10_send_11 (fun L5 tL5 => ?_)
    obtain ⟨L6, eL6⟩ : ∃ q : Int64, q = -99 := ⟨_, rfl⟩
    have tL6 : L6.toInt = -99 := by rw [eL6]; rfl
    refine s_ldc2 (v := L6) C dX10_send_12 (by rw [eL6]; exact mw 1194 (by decide +kernel) rfl) ?_
    obtain ⟨L7, eL7⟩ : ∃ q : Int64, q = 99 := ⟨_, rfl⟩
    have tL7 : L7.toInt = 99 := by rw [eL7]; rfl
    refine s_ldc2 (v := L7) C dX10_send_15 (by rw [eL7]; exact mw 1195 (by decide +kernel) rfl) ?_
    refine s_callSI (st := []) C (c_X10_in l ad σ L5 L6 L7 ) cv_X10_165 rfl rfl ⟨by decide, by decide⟩ (Nat.le_of_ble_eq_true rfl) dX10_send_18 ?_
    intro r8 τ9 h10
    obtain ⟨eh10, h10⟩ := h10; replace eh10 := eh10.symm; subst eh10
    refine s_if_ne (tgt := 27) C dX10_send_21 (by decide) (fun q11 => ?_) (fun q11 => ?_)
    · have hlt := fun h => rc_lt hI.1 (p := p) (by omega) h
      refine s_aload_n C dX10_send_27 rfl ?_
      refine s_getr (k := 2) (j := 73) C y71 fw_X10_19 rfl dX10_send_28 ?_
      refine s_iload_n C dX10_send_31 rfl ?_
      refine s_iald (r := (σ.1 73 p.toNatClampNeg)) C y73 (by omega) rfl dX10_send_32 ?_
      have b12 := hI.ev p.toNatClampNeg
      refine s_iconst C dX10_send_33 (by decide) (fun z13 tz13 => ?_)
      refine s_icmp_eq (tgt := 46) C dX10_send_34 (by decide) (fun q14 => ?_) (fun q14 => ?_)
      · refine s_bipush C dX10_send_46 (by decide) (fun z15 tz15 => ?_)
        exact s_iret C X dX10_send_48 ⟨hI, Fr.rf⟩
      · refine s_aload_n C dX10_send_37 rfl ?_
        refine s_get (k := 10) (x := (σ.1 71 10)) C y71 fw_X10_178 rfl rfl dX10_send_38 ?_
        refine s_bipush C dX10_send_41 (by decide) (fun z16 tz16 => ?_)
        refine s_icmp_ne (tgt := 49) C dX10_send_43 (by decide) (fun q17 => ?_) (fun q17 => ?_)
        · refine s_aload_n C dX10_send_49 rfl ?_
          refine s_get (k := 10) (x := (σ.1 71 10)) C y71 fw_X10_178 rfl rfl dX10_send_50 ?_
          refine s_istore_n C dX10_send_53 (by decide) (Nat.le_of_ble_eq_true rfl) rfl ?_
          show WP E ad 54 [some (.ref (ad 71)), some (.int p), some (.int v), some (.int (σ.1 71 10))] [] σ
          refine s_aload_n C dX10_send_54 rfl ?_
          refine s_dup C dX10_send_55 rfl ?_
          refine s_get (k := 10) (x := (σ.1 71 10)) C y71 fw_X10_178 rfl rfl dX10_send_56 ?_
          refine s_iconst C dX10_send_59 (by decide) (fun z18 tz18 => ?_)
          refine s_iadd C dX10_send_60 (by omega) (fun z19 tz19 => ?_)
          refine s_put (k := 10) C y71 fw_X10_178 fp_9_10 rfl dX10_send_61 ?_
          refine s_aload_n C dX10_send_64 rfl ?_
          refine s_getr (k := 11) (j := 80) C y71 fw_X10_40 rfl dX10_send_65 ?_
          refine s_iload_n C dX10_send_68 rfl ?_
          refine s_iload_n C dX10_send_69 rfl ?_
          refine s_iast C y80 (by omega) dX10_send_70 ?_
          refine s_aload_n C dX10_send_71 rfl ?_
          refine s_getr (k := 12) (j := 81) C y71 fw_X10_43 rfl dX10_send_72 ?_
          refine s_iload_n C dX10_send_75 rfl ?_
          refine s_aload_n C dX10_send_76 rfl ?_
          refine s_iload_n C dX10_send_77 rfl ?_
          refine s_iconst C dX10_send_78 (by decide) (fun z20 tz20 => ?_)
          refine s_iload_n C dX10_send_79 rfl ?_
          refine s_iload_n C dX10_send_80 rfl ?_
          refine s_callVI (st := [.int (σ.1 71 10), .ref (ad 81)]) C (c_X10_comes l ad (sV (sV σ 71 10 z19) 80 ((σ.1 71 10).toNatClampNeg) p) p z20 v (σ.1 71 10) (fun q => (cn (σ.1 79) q (σ.1 71 8).toInt.toNat : Int)) (by omega) hI.ev (by show Int32.toInt (σ.1 73 p.toNatClampNeg) < 5; omega) (by show 0 ≤ Int32.toInt (σ.1 71 8) ∧ Int32.toInt (σ.1 71 8) < 20; have := hlt (by omega); omega) hI.ck (fun q _ => Int.natCast_nonneg _) (fun h1 q hq => ck_prev hI.1 hI.2.1 (by unfold Int32.toNatClampNeg; omega) h1 hq) (fun h => by omega)) cv_X10_198 y71 rfl rfl rfl ⟨by decide, by decide⟩ (Nat.le_of_ble_eq_true rfl) dX10_send_81 ?_
          intro r21 τ22 h23
          obtain ⟨hC, kk, EE, c1, c2, c3, c4, c5, c6, c7, c8, c9, c10, c11, c12⟩ := h23
          refine s_iast C y81 (by omega) dX10_send_84 ?_
          refine s_aload_n C dX10_send_85 rfl ?_
          refine s_getr (k := 13) (j := 82) C y71 fw_X10_46 rfl dX10_send_86 ?_
          refine s_iload_n C dX10_send_89 rfl ?_
          refine s_bipush C dX10_send_90 (by decide) (fun z24 tz24 => ?_)
          refine s_iast C y82 (by omega) dX10_send_92 ?_
          refine s_aload_n C dX10_send_93 rfl ?_
          refine s_getr (k := 14) (j := 83) C y71 fw_X10_49 rfl dX10_send_94 ?_
          refine s_iload_n C dX10_send_97 rfl ?_
          refine s_bipush C dX10_send_98 (by decide) (fun z25 tz25 => ?_)
          refine s_iast C y83 (by omega) dX10_send_100 ?_
          refine s_iload_n C dX10_send_101 rfl ?_
          exact s_iret C X dX10_send_102 ⟨im_grow hI (p := p) (by omega) (by omega) (by omega) (Fr.sV (Fr.sV (Fr.sV (Fr.tr (Fr.sV (Fr.sV Fr.rf (Or.inr (by decide))) (Or.inl (by decide))) (Fr.mo hC (by decide) (by decide))) (Or.inl (by decide))) (Or.inl (by decide))) (Or.inl (by decide))) c1 c3 c4 c5 c6 c7 c8 c9 c10 c11 c12 (fun h => by omega) (by show Int32.toInt (τ22.1 71 10) = _; rw [if_pos (by omega), hC.f 71 10 (by decide) (by decide)]; show Int32.toInt z19 = _; omega) (by show Int32.toInt (τ22.1 71 10) ≤ 8; rw [hC.f 71 10 (by decide) (by decide)]; show Int32.toInt z19 ≤ 8; omega) (by show ∀ j, 0 ≤ (τ22.1 80 j).toInt ∧ (τ22.1 80 j).toInt ≤ 3; rw [hC.a 80 (by decide) (by decide)]; exact up_iv hI.fp _ (by omega)) (up_iv (f := τ22.1 82) (by rw [hC.a 82 (by decide) (by decide)]; exact hI.tk) _ (by omega)) (fun j hj => by show τ22.1 80 j = _ ∧ upd (τ22.1 81) (σ.1 71 10).toNatClampNeg r21 j = _; rw [hC.a 80 (by decide) (by decide), hC.a 81 (by decide) (by decide)]; have hne : j ≠ (σ.1 71 10).toNatClampNeg := (by unfold Int32.toNatClampNeg; omega); exact ⟨pk_un hne, pk_un hne⟩) (fun h => by show (τ22.1 80 (σ.1 71 10).toNatClampNeg).toInt = _ ∧ (upd (τ22.1 81) (σ.1 71 10).toNatClampNeg r21 (σ.1 71 10).toNatClampNeg).toInt = _; rw [hC.a 80 (by decide) (by decide), pk_us]; refine ⟨?_, by omega⟩; show (upd (σ.1 80) (σ.1 71 10).toNatClampNeg p (σ.1 71 10).toNatClampNeg).toInt = _; rw [pk_us]), (Fr.sV (Fr.sV (Fr.sV (Fr.tr (Fr.sV (Fr.sV Fr.rf (Or.inr (by decide))) (Or.inl (by decide))) (Fr.mo hC (by decide) (by decide))) (Or.inl (by decide))) (Or.inl (by decide))) (Or.inl (by decide)))⟩
        · refine s_bipush C dX10_send_46 (by decide) (fun z26 tz26 => ?_)
          exact s_iret C X dX10_send_48 ⟨hI, Fr.rf⟩
    · refine s_bipush C dX10_send_24 (by decide) (fun z27 tz27 => ?_)
      exact s_iret C X dX10_send_26 ⟨hI, Fr.rf⟩
  · refine s_iconst C dX10_send_8 (by decide) (fun z28 tz28 => ?_)
    exact s_iret C X dX10_send_9 ⟨hI, Fr.rf⟩
