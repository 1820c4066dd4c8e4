set_option maxRecDepth 100000 in
theorem c_X10_in (l : Launch) (ad : Nat → Nat) (σ : Sg) (a b c : Int64) : Mt l yX10_in cX10_in 6 (some .boolean) 0 ad σ [.long a, .long b, .long c] (oI (fun r τ => τ = σ ∧ (r.toInt = 0 ∨ r.toInt = 1) ∧ (r.toInt = 1 ↔ (b.toInt ≤ a.toInt ∧ a.toInt ≤ c.toInt)))) := by
  refine Mt_intro (by decide +kernel) (by simp [lg_sl, Value.category]) (fun E C X => ?_)
  show WP E ad 0 [some (.long a), none, some (.long b), none, some (.long c), none] [] σ
  refine s_lload_n C dX10_in_0 rfl ?_
  refine s_lload_n C dX10_in_1 rfl ?_
  refine s_lcmp C dX10_in_2 (fun z1 tz1 => ?_)
  refine s_if_lt (tgt := 17) C dX10_in_3 (by decide) (fun q2 => ?_) (fun q2 => ?_)
  · refine s_iconst C dX10_in_17 (by decide) (fun z3 tz3 => ?_)
    exact s_zret C (by omega) X dX10_in_18 ⟨rfl, by omega⟩
  · refine s_lload_n C dX10_in_6 rfl ?_
    refine s_lload C dX10_in_7 rfl ?_
    refine s_lcmp C dX10_in_9 (fun z4 tz4 => ?_)
    refine s_if_gt (tgt := 17) C dX10_in_10 (by decide) (fun q5 => ?_) (fun q5 => ?_)
    · refine s_iconst C dX10_in_17 (by decide) (fun z6 tz6 => ?_)
      exact s_zret C (by omega) X dX10_in_18 ⟨rfl, by omega⟩
    · refine s_iconst C dX10_in_13 (by decide) (fun z7 tz7 => ?_)
      refine s_goto (tgt := 18) C dX10_in_14 (by decide) ?_
      exact s_zret C (by omega) X dX10_in_18 ⟨rfl, by omega⟩
set_option maxRecDepth 100000 in
theorem c_X10_isProcess (l : Launch) (ad : Nat → Nat) (σ : Sg) (p : Int32) (hpr : 1 ≤ (σ.1 71 0).toInt ∧ (σ.1 71 0).toInt ≤ 4) : Mt l yX10_isProcess cX10_isProcess 2 (some .boolean) 1 ad σ [.ref (ad 71), .int p] (oI (fun r τ => τ = σ ∧ (r.toInt = 0 ∨ r.toInt = 1) ∧ (r.toInt = 1 ↔ (0 ≤ p.toInt ∧ p.toInt < (σ.1 71 0).toInt)))) := by
  refine Mt_intro (by decide +kernel) (by simp [lg_sl, Value.category]) (fun E C X => ?_)
  show WP E ad 0 [some (.ref (ad 71)), some (.int p)] [] σ
  refine s_iload_n C dX10_isProcess_0 rfl ?_
  refine s_i2l C dX10_isProcess_1 (fun L1 tL1 => ?_)
  refine s_lconst C dX10_isProcess_2 rfl (fun L2 tL2 => ?_)
  have tL2 : L2.toInt = 0 := tL2
  refine s_aload_n C dX10_isProcess_3 rfl ?_
  refine s_get (k := 0) (x := (σ.1 71 0)) C y71 fw_X10_9 rfl rfl dX10_isProcess_4 ?_
  refine s_iconst C dX10_isProcess_7 (by decide) (fun z3 tz3 => ?_)
  refine s_isub C dX10_isProcess_8 (by omega) (fun z4 tz4 => ?_)
  refine s_i2l C dX10_isProcess_9 (fun L5 tL5 => ?_)
  refine s_callSI (st := []) C (c_X10_in l ad σ L1 L2 L5 ) cv_X10_165 rfl rfl ⟨by decide, by decide⟩ (Nat.le_of_ble_eq_true rfl) dX10_isProcess_10 ?_
  intro r6 τ7 h8
  obtain ⟨eh8, h8⟩ := h8; replace eh8 := eh8.symm; subst eh8
  exact s_zret C (by omega) X dX10_isProcess_13 ⟨rfl, by omega⟩
set_option maxRecDepth 100000 in
theorem c_X10_at (l : Launch) (ad : Nat → Nat) (σ : Sg) (p k : Int32) (hp : 0 ≤ p.toInt ∧ p.toInt ≤ 20) (hk : -10 ≤ k.toInt ∧ k.toInt ≤ 100) : Mt l yX10_at cX10_at 2 (some .int) 0 ad σ [.int p, .int k] (oI (fun r τ => τ = σ ∧ r.toInt = 5 * p.toInt + k.toInt - 1)) := by
  refine Mt_intro (by decide +kernel) (by simp [lg_sl, Value.category]) (fun E C X => ?_)
  show WP E ad 0 [some (.int p), some (.int k)] [] σ
  refine s_iconst C dX10_at_0 (by decide) (fun z1 tz1 => ?_)
  refine s_iload_n C dX10_at_1 rfl ?_
  refine s_imulL C tz1 dX10_at_2 (by omega) (fun z2 tz2 => ?_)
  refine s_iload_n C dX10_at_3 rfl ?_
  refine s_iadd C dX10_at_4 (by omega) (fun z3 tz3 => ?_)
  refine s_iconst C dX10_at_5 (by decide) (fun z4 tz4 => ?_)
  refine s_isub C dX10_at_6 (by omega) (fun z5 tz5 => ?_)
  exact s_iret C X dX10_at_7 ⟨rfl, by omega⟩
set_option maxRecDepth 100000 in
theorem c_X10_isEvent (l : Launch) (ad : Nat → Nat) (σ : Sg) (p k : Int32) (hpr : 1 ≤ (σ.1 71 0).toInt ∧ (σ.1 71 0).toInt ≤ 4) : Mt l yX10_isEvent cX10_isEvent 3 (some .boolean) 2 ad σ [.ref (ad 71), .int p, .int k] (oI (fun r τ => τ = σ ∧ (r.toInt = 0 ∨ r.toInt = 1) ∧ (r.toInt = 1 ↔ (0 ≤ p.toInt ∧ p.toInt < (σ.1 71 0).toInt ∧ 1 ≤ k.toInt ∧ k.toInt ≤ (σ.1 73 p.toNatClampNeg).toInt)))) := by
  refine Mt_intro (by decide +kernel) (by simp [lg_sl, Value.category]) (fun E C X => ?_)
  show WP E ad 0 [some (.ref (ad 71)), some (.int p), some (.int k)] [] σ
  refine s_aload_n C dX10_isEvent_0 rfl ?_
  refine s_iload_n C dX10_isEvent_1 rfl ?_
  refine s_callVI (st := []) C (c_X10_isProcess l ad σ p (by omega)) cv_X10_169 y71 rfl rfl rfl ⟨by decide, by decide⟩ (Nat.le_of_ble_eq_true rfl) dX10_isEvent_2 ?_
  intro r1 τ2 h3
  obtain ⟨eh3, h3⟩ := h3; replace eh3 := eh3.symm; subst eh3
  refine s_if_eq (tgt := 28) C dX10_isEvent_5 (by decide) (fun q4 => ?_) (fun q4 => ?_)
  · refine s_iconst C dX10_isEvent_28 (by decide) (fun z5 tz5 => ?_)
    exact s_zret C (by omega) X dX10_isEvent_29 ⟨rfl, by omega⟩
  · refine s_iload_n C dX10_isEvent_8 rfl ?_
    refine s_i2l C dX10_isEvent_9 (fun L6 tL6 => ?_)
    refine s_lconst C dX10_isEvent_10 rfl (fun L7 tL7 => ?_)
    have tL7 : L7.toInt = 1 := tL7
    refine s_aload_n C dX10_isEvent_11 rfl ?_
    refine s_getr (k := 2) (j := 73) C y71 fw_X10_19 rfl dX10_isEvent_12 ?_
    refine s_iload_n C dX10_isEvent_15 rfl ?_
    refine s_iald (r := (σ.1 73 p.toNatClampNeg)) C y73 (by omega) rfl dX10_isEvent_16 ?_
    refine s_i2l C dX10_isEvent_17 (fun L8 tL8 => ?_)
    refine s_callSI (st := []) C (c_X10_in l ad σ L6 L7 L8 ) cv_X10_165 rfl rfl ⟨by decide, by decide⟩ (Nat.le_of_ble_eq_true rfl) dX10_isEvent_18 ?_
    intro r9 τ10 h11
    obtain ⟨eh11, h11⟩ := h11; replace eh11 := eh11.symm; subst eh11
    refine s_if_eq (tgt := 28) C dX10_isEvent_21 (by decide) (fun q12 => ?_) (fun q12 => ?_)
    · refine s_iconst C dX10_isEvent_28 (by decide) (fun z13 tz13 => ?_)
      exact s_zret C (by omega) X dX10_isEvent_29 ⟨rfl, by omega⟩
    · refine s_iconst C dX10_isEvent_24 (by decide) (fun z14 tz14 => ?_)
      refine s_goto (tgt := 29) C dX10_isEvent_25 (by decide) ?_
      exact s_zret C (by omega) X dX10_isEvent_29 ⟨rfl, by omega⟩
set_option maxRecDepth 100000 in
theorem c_X10_tapeAt (l : Launch) (ad : Nat → Nat) (σ : Sg) (k : Int32) (hk : 0 ≤ k.toInt) (htp : 0 ≤ (σ.1 71 17).toInt ∧ (σ.1 71 17).toInt ≤ 60) : Mt l yX10_tapeAt cX10_tapeAt 2 (some .int) 0 ad σ [.ref (ad 71), .int k] (oI (fun r τ => τ = σ ∧ (k.toInt < (σ.1 71 17).toInt → r = (σ.1 86 k.toNatClampNeg)) ∧ ((σ.1 71 17).toInt ≤ k.toInt → r.toInt = -1))) := by
  refine Mt_intro (by decide +kernel) (by simp [lg_sl, Value.category]) (fun E C X => ?_)
  show WP E ad 0 [some (.ref (ad 71)), some (.int k)] [] σ
  refine s_iload_n C dX10_tapeAt_0 rfl ?_
  refine s_aload_n C dX10_tapeAt_1 rfl ?_
  refine s_get (k := 17) (x := (σ.1 71 17)) C y71 fw_X10_247 rfl rfl dX10_tapeAt_2 ?_
  refine s_icmp_ge (tgt := 17) C dX10_tapeAt_5 (by decide) (fun q1 => ?_) (fun q1 => ?_)
  · refine s_iconst C dX10_tapeAt_17 (by decide) (fun z2 tz2 => ?_)
    exact s_iret C X dX10_tapeAt_18 ⟨rfl, ⟨fun _ => by first | rfl | omega, fun _ => by omega⟩⟩
  · refine s_aload_n C dX10_tapeAt_8 rfl ?_
    refine s_getr (k := 18) (j := 86) C y71 fw_X10_58 rfl dX10_tapeAt_9 ?_
    refine s_iload_n C dX10_tapeAt_12 rfl ?_
    refine s_iald (r := (σ.1 86 k.toNatClampNeg)) C y86 (by omega) rfl dX10_tapeAt_13 ?_
    refine s_goto (tgt := 18) C dX10_tapeAt_14 (by decide) ?_
    exact s_iret C X dX10_tapeAt_18 ⟨rfl, ⟨fun _ => by first | rfl | omega, fun _ => by omega⟩⟩
set_option maxRecDepth 100000 in
theorem c_X10_isFigure (l : Launch) (ad : Nat → Nat) (σ : Sg) (c : Int32) : Mt l yX10_isFigure cX10_isFigure 1 (some .boolean) 1 ad σ [.int c] (oI (fun r τ => τ = σ ∧ (r.toInt = 0 ∨ r.toInt = 1) ∧ (r.toInt = 1 ↔ (48 ≤ c.toInt ∧ c.toInt ≤ 57)))) := by
  refine Mt_intro (by decide +kernel) (by simp [lg_sl, Value.category]) (fun E C X => ?_)
  show WP E ad 0 [some (.int c)] [] σ
  refine s_iload_n C dX10_isFigure_0 rfl ?_
  refine s_i2l C dX10_isFigure_1 (fun L1 tL1 => ?_)
  obtain ⟨L2, eL2⟩ : ∃ q : Int64, q = 48 := ⟨_, rfl⟩
  have tL2 : L2.toInt = 48 := by rw [eL2]; rfl
  refine s_ldc2 (v := L2) C dX10_isFigure_2 (by rw [eL2]; exact mw 1341 (by decide +kernel) rfl) ?_
  obtain ⟨L3, eL3⟩ : ∃ q : Int64, q = 57 := ⟨_, rfl⟩
  have tL3 : L3.toInt = 57 := by rw [eL3]; rfl
  refine s_ldc2 (v := L3) C dX10_isFigure_5 (by rw [eL3]; exact mw 1345 (by decide +kernel) rfl) ?_
  refine s_callSI (st := []) C (c_X10_in l ad σ L1 L2 L3 ) cv_X10_165 rfl rfl ⟨by decide, by decide⟩ (Nat.le_of_ble_eq_true rfl) dX10_isFigure_8 ?_
  intro r4 τ5 h6
  obtain ⟨eh6, h6⟩ := h6; replace eh6 := eh6.symm; subst eh6
  exact s_zret C (by omega) X dX10_isFigure_11 ⟨rfl, by omega⟩
set_option maxRecDepth 100000 in
theorem c_X10_isCondition (l : Launch) (ad : Nat → Nat) (σ : Sg) (c : Int32) : Mt l yX10_isCondition cX10_isCondition 1 (some .boolean) 1 ad σ [.int c] (oI (fun r τ => τ = σ ∧ (r.toInt = 0 ∨ r.toInt = 1) ∧ (r.toInt = 1 ↔ (0 ≤ c.toInt ∧ c.toInt ≤ 2)))) := by
  refine Mt_intro (by decide +kernel) (by simp [lg_sl, Value.category]) (fun E C X => ?_)
  show WP E ad 0 [some (.int c)] [] σ
  refine s_iload_n C dX10_isCondition_0 rfl ?_
  refine s_i2l C dX10_isCondition_1 (fun L1 tL1 => ?_)
  refine s_lconst C dX10_isCondition_2 rfl (fun L2 tL2 => ?_)
  have tL2 : L2.toInt = 0 := tL2
  obtain ⟨L3, eL3⟩ : ∃ q : Int64, q = 2 := ⟨_, rfl⟩
  have tL3 : L3.toInt = 2 := by rw [eL3]; rfl
  refine s_ldc2 (v := L3) C dX10_isCondition_3 (by rw [eL3]; exact mw 1328 (by decide +kernel) rfl) ?_
  refine s_callSI (st := []) C (c_X10_in l ad σ L1 L2 L3 ) cv_X10_165 rfl rfl ⟨by decide, by decide⟩ (Nat.le_of_ble_eq_true rfl) dX10_isCondition_6 ?_
  intro r4 τ5 h6
  obtain ⟨eh6, h6⟩ := h6; replace eh6 := eh6.symm; subst eh6
  exact s_zret C (by omega) X dX10_isCondition_9 ⟨rfl, by omega⟩
set_option maxRecDepth 100000 in
theorem c_X10_isList (l : Launch) (ad : Nat → Nat) (σ : Sg) (c : Int32) : Mt l yX10_isList cX10_isList 1 (some .boolean) 1 ad σ [.int c] (oI (fun r τ => τ = σ ∧ (r.toInt = 0 ∨ r.toInt = 1) ∧ (r.toInt = 1 ↔ (0 ≤ c.toInt ∧ c.toInt ≤ 2)))) := by
  refine Mt_intro (by decide +kernel) (by simp [lg_sl, Value.category]) (fun E C X => ?_)
  show WP E ad 0 [some (.int c)] [] σ
  refine s_iload_n C dX10_isList_0 rfl ?_
  refine s_i2l C dX10_isList_1 (fun L1 tL1 => ?_)
  refine s_lconst C dX10_isList_2 rfl (fun L2 tL2 => ?_)
  have tL2 : L2.toInt = 0 := tL2
  obtain ⟨L3, eL3⟩ : ∃ q : Int64, q = 2 := ⟨_, rfl⟩
  have tL3 : L3.toInt = 2 := by rw [eL3]; rfl
  refine s_ldc2 (v := L3) C dX10_isList_3 (by rw [eL3]; exact mw 1328 (by decide +kernel) rfl) ?_
  refine s_callSI (st := []) C (c_X10_in l ad σ L1 L2 L3 ) cv_X10_165 rfl rfl ⟨by decide, by decide⟩ (Nat.le_of_ble_eq_true rfl) dX10_isList_6 ?_
  intro r4 τ5 h6
  obtain ⟨eh6, h6⟩ := h6; replace eh6 := eh6.symm; subst eh6
  exact s_zret C (by omega) X dX10_isList_9 ⟨rfl, by omega⟩
