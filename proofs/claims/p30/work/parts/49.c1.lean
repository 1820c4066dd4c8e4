set_option maxRecDepth 100000 in
theorem c_X4_one (l : Launch) (ad : Nat → Nat) (σ : Sg) (p : Int32)  : Mt l yX4_one cX4_one 1 (some .int) 0 ad σ [.int p] (oI (fun r τ => τ = σ ∧ r = rOne p)) := by
  refine Mt_intro (by decide +kernel) (by simp [lg_sl, Value.category]) (fun E C X => ?_)
  show WP E ad 0 [some (.int p)] [] σ
  refine s_iconst C dX4_one_0 (by decide) (fun z1 tz1 => ?_)
  refine s_iconst C dX4_one_1 (by decide) (fun z2 tz2 => ?_)
  refine s_iload_n C dX4_one_2 rfl ?_
  refine s_imulU C dX4_one_3 (fun z3 tz3 => ?_)
  refine s_ishl C dX4_one_4 (fun z4 tz4 => ?_)
  exact s_iret C X dX4_one_5 ⟨rfl, by rw [tz4, tz3, ceq (n := 1) tz1, ceq (n := 4) tz2]; rfl⟩
set_option maxRecDepth 100000 in
theorem c_X4_at (l : Launch) (ad : Nat → Nat) (σ : Sg) (a : Int32) (p : Int32)  : Mt l yX4_at cX4_at 2 (some .int) 0 ad σ [.int a, .int p] (oI (fun r τ => τ = σ ∧ r = rAt a p ∧ 0 ≤ r.toInt ∧ r.toInt ≤ 7)) := by
  refine Mt_intro (by decide +kernel) (by simp [lg_sl, Value.category]) (fun E C X => ?_)
  show WP E ad 0 [some (.int a), some (.int p)] [] σ
  refine s_iload_n C dX4_at_0 rfl ?_
  refine s_iconst C dX4_at_1 (by decide) (fun z1 tz1 => ?_)
  refine s_iload_n C dX4_at_2 rfl ?_
  refine s_imulU C dX4_at_3 (fun z2 tz2 => ?_)
  refine s_ishr C dX4_at_4 (fun z3 tz3 => ?_)
  refine s_bipush C dX4_at_5 (by decide) (fun z4 tz4 => ?_)
  refine s_iand C dX4_at_7 (fun z5 tz5 => ?_)
  have ee : z5 = rAt a p := by rw [tz5, tz3, tz2, ceq (n := 4) tz1, ceq (n := 7) tz4]; rfl
  exact s_iret C X dX4_at_8 ⟨rfl, ee, by rw [ee]; exact rAt_b a p⟩
set_option maxRecDepth 100000 in
theorem c_X4_without (l : Launch) (ad : Nat → Nat) (σ : Sg) (a : Int32) (p : Int32)  : Mt l yX4_without cX4_without 2 (some .int) 0 ad σ [.int a, .int p] (oI (fun r τ => τ = σ ∧ r = rWo a p)) := by
  refine Mt_intro (by decide +kernel) (by simp [lg_sl, Value.category]) (fun E C X => ?_)
  show WP E ad 0 [some (.int a), some (.int p)] [] σ
  refine s_iload_n C dX4_without_0 rfl ?_
  refine s_bipush C dX4_without_1 (by decide) (fun z1 tz1 => ?_)
  refine s_iconst C dX4_without_3 (by decide) (fun z2 tz2 => ?_)
  refine s_iload_n C dX4_without_4 rfl ?_
  refine s_imulU C dX4_without_5 (fun z3 tz3 => ?_)
  refine s_ishl C dX4_without_6 (fun z4 tz4 => ?_)
  refine s_iconst C dX4_without_7 (by decide) (fun z5 tz5 => ?_)
  refine s_ixor C dX4_without_8 (fun z6 tz6 => ?_)
  refine s_iand C dX4_without_9 (fun z7 tz7 => ?_)
  exact s_iret C X dX4_without_10 ⟨rfl, by rw [tz7, tz6, tz4, tz3, ceq (n := 7) tz1, ceq (n := 4) tz2, ceq (n := -1) tz5]; rfl⟩
set_option maxRecDepth 100000 in
theorem c_X4_notBelow (l : Launch) (ad : Nat → Nat) (σ : Sg) (a : Int32) (b : Int32)  : Mt l yX4_notBelow cX4_notBelow 3 (some .int) 0 ad σ [.int a, .int b] (oI (fun r τ => τ = σ ∧ True)) := by
  refine Mt_intro (by decide +kernel) (by simp [lg_sl, Value.category]) (fun E C X => ?_)
  show WP E ad 0 [some (.int a), some (.int b), none] [] σ
  refine s_iload_n C dX4_notBelow_0 rfl ?_
  refine s_ldc (v := 34952) C dX4_notBelow_1 (mw 430 (by decide +kernel) rfl) ?_
  refine s_ior C dX4_notBelow_3 (fun z1 tz1 => ?_)
  refine s_iload_n C dX4_notBelow_4 rfl ?_
  refine s_isubU C dX4_notBelow_5 (fun z2 tz2 => ?_)
  refine s_ldc (v := 34952) C dX4_notBelow_6 (mw 430 (by decide +kernel) rfl) ?_
  refine s_iand C dX4_notBelow_8 (fun z3 tz3 => ?_)
  refine s_istore_n C dX4_notBelow_9 (by decide) (Nat.le_of_ble_eq_true rfl) rfl ?_
  show WP E ad 10 [some (.int a), some (.int b), some (.int z3)] [] σ
  refine s_iload_n C dX4_notBelow_10 rfl ?_
  refine s_iload_n C dX4_notBelow_11 rfl ?_
  refine s_iconst C dX4_notBelow_12 (by decide) (fun z4 tz4 => ?_)
  refine s_ishr C dX4_notBelow_13 (fun z5 tz5 => ?_)
  refine s_isubU C dX4_notBelow_14 (fun z6 tz6 => ?_)
  exact s_iret C X dX4_notBelow_15 ⟨rfl, trivial⟩
set_option maxRecDepth 100000 in
theorem c_X4_isWithin (l : Launch) (ad : Nat → Nat) (σ : Sg) (a : Int32) (b : Int32)  : Mt l yX4_isWithin cX4_isWithin 2 (some .boolean) 1 ad σ [.int a, .int b] (oI (fun r τ => τ = σ ∧ (r.toInt = 0 ∨ r.toInt = 1))) := by
  refine Mt_intro (by decide +kernel) (by simp [lg_sl, Value.category]) (fun E C X => ?_)
  show WP E ad 0 [some (.int a), some (.int b)] [] σ
  refine s_iload_n C dX4_isWithin_0 rfl ?_
  refine s_iload_n C dX4_isWithin_1 rfl ?_
  refine s_callSI (st := []) C (c_X4_notBelow l ad σ b a ) cv_X4_10 rfl rfl ⟨by decide, by decide⟩ (Nat.le_of_ble_eq_true rfl) dX4_isWithin_2 ?_
  intro r1 τ2 h3
  obtain ⟨eh3, h3⟩ := h3; replace eh3 := eh3.symm; subst eh3
  refine s_sipush C dX4_isWithin_5 (by decide) (fun z4 tz4 => ?_)
  refine s_icmp_ne (tgt := 15) C dX4_isWithin_8 (by decide) (fun q5 => ?_) (fun q5 => ?_)
  · refine s_iconst C dX4_isWithin_15 (by decide) (fun z6 tz6 => ?_)
    exact s_zret C (by omega) X dX4_isWithin_16 ⟨rfl, by omega⟩
  · refine s_iconst C dX4_isWithin_11 (by decide) (fun z7 tz7 => ?_)
    refine s_goto (tgt := 16) C dX4_isWithin_12 (by decide) ?_
    exact s_zret C (by omega) X dX4_isWithin_16 ⟨rfl, by omega⟩
set_option maxRecDepth 100000 in
theorem c_X4_lesser (l : Launch) (ad : Nat → Nat) (σ : Sg) (a : Int32) (b : Int32)  : Mt l yX4_lesser cX4_lesser 3 (some .int) 1 ad σ [.int a, .int b] (oI (fun r τ => τ = σ ∧ True)) := by
  refine Mt_intro (by decide +kernel) (by simp [lg_sl, Value.category]) (fun E C X => ?_)
  show WP E ad 0 [some (.int a), some (.int b), none] [] σ
  refine s_iload_n C dX4_lesser_0 rfl ?_
  refine s_iload_n C dX4_lesser_1 rfl ?_
  refine s_callSI (st := []) C (c_X4_notBelow l ad σ a b ) cv_X4_10 rfl rfl ⟨by decide, by decide⟩ (Nat.le_of_ble_eq_true rfl) dX4_lesser_2 ?_
  intro r1 τ2 h3
  obtain ⟨eh3, h3⟩ := h3; replace eh3 := eh3.symm; subst eh3
  refine s_istore_n C dX4_lesser_5 (by decide) (Nat.le_of_ble_eq_true rfl) rfl ?_
  show WP E ad 6 [some (.int a), some (.int b), some (.int r1)] [] σ
  refine s_iload_n C dX4_lesser_6 rfl ?_
  refine s_iload_n C dX4_lesser_7 rfl ?_
  refine s_iand C dX4_lesser_8 (fun z4 tz4 => ?_)
  refine s_iload_n C dX4_lesser_9 rfl ?_
  refine s_iload_n C dX4_lesser_10 rfl ?_
  refine s_iconst C dX4_lesser_11 (by decide) (fun z5 tz5 => ?_)
  refine s_ixor C dX4_lesser_12 (fun z6 tz6 => ?_)
  refine s_iand C dX4_lesser_13 (fun z7 tz7 => ?_)
  refine s_ior C dX4_lesser_14 (fun z8 tz8 => ?_)
  exact s_iret C X dX4_lesser_15 ⟨rfl, trivial⟩
set_option maxRecDepth 100000 in
theorem c_X4_greater (l : Launch) (ad : Nat → Nat) (σ : Sg) (a : Int32) (b : Int32)  : Mt l yX4_greater cX4_greater 3 (some .int) 1 ad σ [.int a, .int b] (oI (fun r τ => τ = σ ∧ True)) := by
  refine Mt_intro (by decide +kernel) (by simp [lg_sl, Value.category]) (fun E C X => ?_)
  show WP E ad 0 [some (.int a), some (.int b), none] [] σ
  refine s_iload_n C dX4_greater_0 rfl ?_
  refine s_iload_n C dX4_greater_1 rfl ?_
  refine s_callSI (st := []) C (c_X4_notBelow l ad σ a b ) cv_X4_10 rfl rfl ⟨by decide, by decide⟩ (Nat.le_of_ble_eq_true rfl) dX4_greater_2 ?_
  intro r1 τ2 h3
  obtain ⟨eh3, h3⟩ := h3; replace eh3 := eh3.symm; subst eh3
  refine s_istore_n C dX4_greater_5 (by decide) (Nat.le_of_ble_eq_true rfl) rfl ?_
  show WP E ad 6 [some (.int a), some (.int b), some (.int r1)] [] σ
  refine s_iload_n C dX4_greater_6 rfl ?_
  refine s_iload_n C dX4_greater_7 rfl ?_
  refine s_iand C dX4_greater_8 (fun z4 tz4 => ?_)
  refine s_iload_n C dX4_greater_9 rfl ?_
  refine s_iload_n C dX4_greater_10 rfl ?_
  refine s_iconst C dX4_greater_11 (by decide) (fun z5 tz5 => ?_)
  refine s_ixor C dX4_greater_12 (fun z6 tz6 => ?_)
  refine s_iand C dX4_greater_13 (fun z7 tz7 => ?_)
  refine s_ior C dX4_greater_14 (fun z8 tz8 => ?_)
  exact s_iret C X dX4_greater_15 ⟨rfl, trivial⟩
set_option maxRecDepth 100000 in
theorem c_X4_sum (l : Launch) (ad : Nat → Nat) (σ : Sg) (a : Int32)  : Mt l yX4_sum cX4_sum 1 (some .int) 1 ad σ [.int a] (oI (fun r τ => τ = σ ∧ 0 ≤ r.toInt ∧ r.toInt ≤ 28)) := by
  refine Mt_intro (by decide +kernel) (by simp [lg_sl, Value.category]) (fun E C X => ?_)
  show WP E ad 0 [some (.int a)] [] σ
  refine s_iload_n C dX4_sum_0 rfl ?_
  refine s_iconst C dX4_sum_1 (by decide) (fun z1 tz1 => ?_)
  refine s_callSI (st := []) C (c_X4_at l ad σ a z1 ) cv_X4_14 rfl rfl ⟨by decide, by decide⟩ (Nat.le_of_ble_eq_true rfl) dX4_sum_2 ?_
  intro r2 τ3 h4
  obtain ⟨eh4, h4⟩ := h4; replace eh4 := eh4.symm; subst eh4
  refine s_iload_n C dX4_sum_5 rfl ?_
  refine s_iconst C dX4_sum_6 (by decide) (fun z5 tz5 => ?_)
  refine s_callSI (st := [.int r2]) C (c_X4_at l ad σ a z5 ) cv_X4_14 rfl rfl ⟨by decide, by decide⟩ (Nat.le_of_ble_eq_true rfl) dX4_sum_7 ?_
  intro r6 τ7 h8
  obtain ⟨eh8, h8⟩ := h8; replace eh8 := eh8.symm; subst eh8
  refine s_iadd C dX4_sum_10 (by omega) (fun z9 tz9 => ?_)
  refine s_iload_n C dX4_sum_11 rfl ?_
  refine s_iconst C dX4_sum_12 (by decide) (fun z10 tz10 => ?_)
  refine s_callSI (st := [.int z9]) C (c_X4_at l ad σ a z10 ) cv_X4_14 rfl rfl ⟨by decide, by decide⟩ (Nat.le_of_ble_eq_true rfl) dX4_sum_13 ?_
  intro r11 τ12 h13
  obtain ⟨eh13, h13⟩ := h13; replace eh13 := eh13.symm; subst eh13
  refine s_iadd C dX4_sum_16 (by omega) (fun z14 tz14 => ?_)
  refine s_iload_n C dX4_sum_17 rfl ?_
  refine s_iconst C dX4_sum_18 (by decide) (fun z15 tz15 => ?_)
  refine s_callSI (st := [.int z14]) C (c_X4_at l ad σ a z15 ) cv_X4_14 rfl rfl ⟨by decide, by decide⟩ (Nat.le_of_ble_eq_true rfl) dX4_sum_19 ?_
  intro r16 τ17 h18
  obtain ⟨eh18, h18⟩ := h18; replace eh18 := eh18.symm; subst eh18
  refine s_iadd C dX4_sum_22 (by omega) (fun z19 tz19 => ?_)
  exact s_iret C X dX4_sum_23 ⟨rfl, by omega⟩
set_option maxRecDepth 100000 in
theorem c_X4_decimal (l : Launch) (ad : Nat → Nat) (σ : Sg) (a : Int32)  : Mt l yX4_decimal cX4_decimal 1 (some .int) 1 ad σ [.int a] (oI (fun r τ => τ = σ ∧ 0 ≤ r.toInt ∧ r.toInt ≤ 7777)) := by
  refine Mt_intro (by decide +kernel) (by simp [lg_sl, Value.category]) (fun E C X => ?_)
  show WP E ad 0 [some (.int a)] [] σ
  refine s_iload_n C dX4_decimal_0 rfl ?_
  refine s_iconst C dX4_decimal_1 (by decide) (fun z1 tz1 => ?_)
  refine s_callSI (st := []) C (c_X4_at l ad σ a z1 ) cv_X4_14 rfl rfl ⟨by decide, by decide⟩ (Nat.le_of_ble_eq_true rfl) dX4_decimal_2 ?_
  intro r2 τ3 h4
  obtain ⟨eh4, h4⟩ := h4; replace eh4 := eh4.symm; subst eh4
  refine s_bipush C dX4_decimal_5 (by decide) (fun z5 tz5 => ?_)
  refine s_imulR C tz5 dX4_decimal_7 (by omega) (fun z6 tz6 => ?_)
  refine s_iload_n C dX4_decimal_8 rfl ?_
  refine s_iconst C dX4_decimal_9 (by decide) (fun z7 tz7 => ?_)
  refine s_callSI (st := [.int z6]) C (c_X4_at l ad σ a z7 ) cv_X4_14 rfl rfl ⟨by decide, by decide⟩ (Nat.le_of_ble_eq_true rfl) dX4_decimal_10 ?_
  intro r8 τ9 h10
  obtain ⟨eh10, h10⟩ := h10; replace eh10 := eh10.symm; subst eh10
  refine s_iadd C dX4_decimal_13 (by omega) (fun z11 tz11 => ?_)
  refine s_bipush C dX4_decimal_14 (by decide) (fun z12 tz12 => ?_)
  refine s_imulR C tz12 dX4_decimal_16 (by omega) (fun z13 tz13 => ?_)
  refine s_iload_n C dX4_decimal_17 rfl ?_
  refine s_iconst C dX4_decimal_18 (by decide) (fun z14 tz14 => ?_)
  refine s_callSI (st := [.int z13]) C (c_X4_at l ad σ a z14 ) cv_X4_14 rfl rfl ⟨by decide, by decide⟩ (Nat.le_of_ble_eq_true rfl) dX4_decimal_19 ?_
  intro r15 τ16 h17
  obtain ⟨eh17, h17⟩ := h17; replace eh17 := eh17.symm; subst eh17
  refine s_iadd C dX4_decimal_22 (by omega) (fun z18 tz18 => ?_)
  refine s_bipush C dX4_decimal_23 (by decide) (fun z19 tz19 => ?_)
  refine s_imulR C tz19 dX4_decimal_25 (by omega) (fun z20 tz20 => ?_)
  refine s_iload_n C dX4_decimal_26 rfl ?_
  refine s_iconst C dX4_decimal_27 (by decide) (fun z21 tz21 => ?_)
  refine s_callSI (st := [.int z20]) C (c_X4_at l ad σ a z21 ) cv_X4_14 rfl rfl ⟨by decide, by decide⟩ (Nat.le_of_ble_eq_true rfl) dX4_decimal_28 ?_
  intro r22 τ23 h24
  obtain ⟨eh24, h24⟩ := h24; replace eh24 := eh24.symm; subst eh24
  refine s_iadd C dX4_decimal_31 (by omega) (fun z25 tz25 => ?_)
  exact s_iret C X dX4_decimal_32 ⟨rfl, by omega⟩
set_option maxRecDepth 100000 in
theorem c_X4_slot (l : Launch) (ad : Nat → Nat) (σ : Sg) (a : Int32)  : Mt l yX4_slot cX4_slot 1 (some .int) 0 ad σ [.int a] (oI (fun r τ => τ = σ ∧ (0 ≤ r.toInt ∧ r.toInt ≤ 1813) ∧ (GR a → r.toInt ≤ 1295))) := by
  refine Mt_intro (by decide +kernel) (by simp [lg_sl, Value.category]) (fun E C X => ?_)
  show WP E ad 0 [some (.int a)] [] σ
  refine s_iload_n C dX4_slot_0 rfl ?_
  refine s_bipush C dX4_slot_1 (by decide) (fun z1 tz1 => ?_)
  refine s_ishr C dX4_slot_3 (fun z2 tz2 => ?_)
  refine s_bipush C dX4_slot_4 (by decide) (fun z3 tz3 => ?_)
  refine s_iand C dX4_slot_6 (fun z4 tz4 => ?_)
  have ez4 : z4 = rAt a 3 := by rw [tz4, tz2, ceq (n := 12) tz1, ceq (n := 7) tz3]; rfl
  have bz4 : (0 ≤ z4.toInt ∧ z4.toInt ≤ 7) ∧ (GR a → z4.toInt ≤ 5) := by rw [ez4]; exact ⟨rAt_b _ _, fun h => h.at5 (by decide)⟩
  refine s_bipush C dX4_slot_7 (by decide) (fun z5 tz5 => ?_)
  refine s_imulR C tz5 dX4_slot_9 (by omega) (fun z6 tz6 => ?_)
  refine s_iload_n C dX4_slot_10 rfl ?_
  refine s_bipush C dX4_slot_11 (by decide) (fun z7 tz7 => ?_)
  refine s_ishr C dX4_slot_13 (fun z8 tz8 => ?_)
  refine s_bipush C dX4_slot_14 (by decide) (fun z9 tz9 => ?_)
  refine s_iand C dX4_slot_16 (fun z10 tz10 => ?_)
  have ez10 : z10 = rAt a 2 := by rw [tz10, tz8, ceq (n := 8) tz7, ceq (n := 7) tz9]; rfl
  have bz10 : (0 ≤ z10.toInt ∧ z10.toInt ≤ 7) ∧ (GR a → z10.toInt ≤ 5) := by rw [ez10]; exact ⟨rAt_b _ _, fun h => h.at5 (by decide)⟩
  refine s_iadd C dX4_slot_17 (by omega) (fun z11 tz11 => ?_)
  refine s_bipush C dX4_slot_18 (by decide) (fun z12 tz12 => ?_)
  refine s_imulR C tz12 dX4_slot_20 (by omega) (fun z13 tz13 => ?_)
  refine s_iload_n C dX4_slot_21 rfl ?_
  refine s_iconst C dX4_slot_22 (by decide) (fun z14 tz14 => ?_)
  refine s_ishr C dX4_slot_23 (fun z15 tz15 => ?_)
  refine s_bipush C dX4_slot_24 (by decide) (fun z16 tz16 => ?_)
  refine s_iand C dX4_slot_26 (fun z17 tz17 => ?_)
  have ez17 : z17 = rAt a 1 := by rw [tz17, tz15, ceq (n := 4) tz14, ceq (n := 7) tz16]; rfl
  have bz17 : (0 ≤ z17.toInt ∧ z17.toInt ≤ 7) ∧ (GR a → z17.toInt ≤ 5) := by rw [ez17]; exact ⟨rAt_b _ _, fun h => h.at5 (by decide)⟩
  refine s_iadd C dX4_slot_27 (by omega) (fun z18 tz18 => ?_)
  refine s_bipush C dX4_slot_28 (by decide) (fun z19 tz19 => ?_)
  refine s_imulR C tz19 dX4_slot_30 (by omega) (fun z20 tz20 => ?_)
  refine s_iload_n C dX4_slot_31 rfl ?_
  refine s_bipush C dX4_slot_32 (by decide) (fun z21 tz21 => ?_)
  refine s_iand C dX4_slot_34 (fun z22 tz22 => ?_)
  have ez22 : z22 = rAt a 0 := by rw [tz22, ceq (n := 7) tz21]; unfold rAt; rw [show (4 * 0 : Int32) = 0 from rfl, sb_shr0]
  have bz22 : (0 ≤ z22.toInt ∧ z22.toInt ≤ 7) ∧ (GR a → z22.toInt ≤ 5) := by rw [ez22]; exact ⟨rAt_b _ _, fun h => h.at5 (by decide)⟩
  refine s_iadd C dX4_slot_35 (by omega) (fun z23 tz23 => ?_)
  exact s_iret C X dX4_slot_36 ⟨rfl, by omega, fun hg => by have gz4 := bz4.2 hg; have gz10 := bz10.2 hg; have gz17 := bz17.2 hg; have gz22 := bz22.2 hg; omega⟩
set_option maxRecDepth 100000 in
theorem L_fill (l : Launch) (ad : Nat → Nat) (E : Ev) (σ : Sg) (i n b : Nat) (y : lay[i]? = some (.inl (0, n, b))) (hn : n < 2147483648) (v zn : Int32) (hz2 : zn.toInt = n) (C : Cx E l (rmk 0) 4 cJ7_fill_53178 RJ7) (X : Rx E ad none (oV (fun τ => τ = sR σ i (fun _ => v))))  : ∀ (m : Nat) (f : Nat → Int32) (z : Int32), (∀ j : Nat, (j : Int) < z.toInt → f j = v) → (0 ≤ z.toInt) → ((n : Int) - z.toInt).toNat < m → WP E ad 5 [some (.ref (ad i)), some (.int v), some (.int z), some (.int zn)] [] (sR σ i f) := by
  intro m
  induction m with
  | zero => intro f z hf h0 hm9; exact absurd hm9 (Nat.not_lt_zero _)
  | succ m ih =>
    intro f z hf h0 hm9
    refine s_iload_n C dJ7_fill_53178_5 rfl ?_
    refine s_iload_n C dJ7_fill_53178_6 rfl ?_
    refine s_icmp_ge (tgt := 20) C dJ7_fill_53178_7 (by decide) (fun q1 => ?_) (fun q1 => ?_)
    · refine wp_row (g := fun _ => v) y (fun j hj => hf j (by omega)) ?_
      exact s_vret C X dJ7_fill_53178_20 rfl
    · refine s_aload_n C dJ7_fill_53178_10 rfl ?_
      refine s_iload_n C dJ7_fill_53178_11 rfl ?_
      refine s_iload_n C dJ7_fill_53178_12 rfl ?_
      refine s_iast C y (by omega) dJ7_fill_53178_13 ?_
      refine s_iinc C dJ7_fill_53178_14 rfl (by decide) rfl (by decide) (by omega) (fun z2 tz2 => ?_)
      show WP E ad 17 [some (.ref (ad i)), some (.int v), some (.int z2), some (.int zn)] [] (sV (sR σ i f) i z.toNatClampNeg v)
      refine s_goto (tgt := 5) C dJ7_fill_53178_17 (by decide) ?_
      rw [sV_sR]
      exact ih _ z2 (fun j hj => by by_cases e : j = z.toNatClampNeg; (rw [e, pk_us]); (rw [pk_un e]; exact hf j (by unfold Int32.toNatClampNeg at e; omega))) (by omega) (by omega)
set_option maxRecDepth 100000 in
theorem c_J7_fill_53178 (l : Launch) (ad : Nat → Nat) (σ : Sg) (i n b : Nat) (y : lay[i]? = some (.inl (0, n, b))) (hn : n < 2147483648) (v : Int32) : Mt l yJ7_fill_53178 cJ7_fill_53178 4 none 0 ad σ [.ref (ad i), .int v] (oV (fun τ => τ = sR σ i (fun _ => v))) := by
  refine Mt_intro (by decide +kernel) (by simp [lg_sl, Value.category]) (fun E C X => ?_)
  show WP E ad 0 [some (.ref (ad i)), some (.int v), none, none] [] σ
  refine s_iconst C dJ7_fill_53178_0 (by decide) (fun z1 tz1 => ?_)
  refine s_istore_n C dJ7_fill_53178_1 (by decide) (Nat.le_of_ble_eq_true rfl) rfl ?_
  show WP E ad 2 [some (.ref (ad i)), some (.int v), some (.int z1), none] [] σ
  refine s_aload_n C dJ7_fill_53178_2 rfl ?_
  refine s_alen0 C y (by omega) dJ7_fill_53178_3 (fun z2 tz2 => ?_)
  refine s_istore_n C dJ7_fill_53178_4 (by decide) (Nat.le_of_ble_eq_true rfl) rfl ?_
  show WP E ad 5 [some (.ref (ad i)), some (.int v), some (.int z1), some (.int z2)] [] σ
  rw [← sR_self σ i]
  exact L_fill l ad E σ i n b y hn v z2 (by omega) C X (n + 5) (σ.1 i) z1 (fun j hj => by omega) (by omega) (by omega)
theorem wp_rowL {E : Ev} {ad : Nat → Nat} {pc : Nat} {lv : List (Option Value)} {st : List Value} {σ : Sg} {i n b : Nat} {f g : Nat → Int64} (y : lay[i]? = some (.inl (1, n, b))) (h : ∀ j, j < n → f j = g j) (k : WP E ad pc lv st (sQ σ i g)) : WP E ad pc lv st (sQ σ i f) := by
  obtain ⟨p, l, e, R, s, m, args, below, meth, c, cells, slots, Q, D, ck, A, nL⟩ := E
  intro H locs ls hP hD hS hl
  have hE : ∀ j, j ≠ i → ∀ c, gE ck ad (sQ σ i f) j c = gE ck ad (sQ σ i g) j c := fun j hj c => gE_eq (σ := sQ σ i f) (τ := sQ σ i g) rfl ((sQ_o (σ := σ) (f := f) j hj).2.symm.trans (sQ_o (σ := σ) (f := g) j hj).2) c
  refine k H locs ls (fun q w hw => ?_) ⟨fun a b p q ha hb hpq => ?_, fun q w hw => ?_⟩ hS hl
  · obtain ⟨c1, h1, rfl⟩ := gW_some hw
    have h2 := hP q _ (gW_at h1)
    by_cases hq : q = i
    · subst hq
      rw [y] at h1
      cases h1
      show H[ad q]? = some (vp_cell (ck 1) (n, .inr (.inl ((sQ σ q g).2 q))))
      have h3 : H[ad q]? = some (vp_cell (ck 1) (n, .inr (.inl ((sQ σ q f).2 q)))) := h2
      rw [h3]
      show some (arrV (ck 1) n (fun j => Value.long ((sQ σ q f).2 q j))) = some (arrV (ck 1) n (fun j => Value.long ((sQ σ q g).2 q j)))
      congr 1
      unfold arrV
      congr 1
      apply Array.ext
      · simp
      · intro k h1 h2
        simp at h1
        simp only [List.getElem_toArray, List.getElem_map, List.getElem_range, Array.getElem_ofFn]
        show Value.long (va_up σ.2 q f q k) = Value.long (va_up σ.2 q g q k)
        rw [va_up_self, va_up_self, h k h1]
    · rw [hE q hq] at h2
      exact h2
  · obtain ⟨c1, h1, rfl⟩ := gW_some ha
    obtain ⟨c2, h2, rfl⟩ := gW_some hb
    exact hD.1 a b _ _ (gW_at h1) (gW_at h2) hpq
  · obtain ⟨c1, h1, rfl⟩ := gW_some hw
    have h2 := hD.2 q _ (gW_at (ck := ck) (ad := ad) (σ := sQ σ i f) h1)
    exact h2
set_option maxRecDepth 100000 in
theorem L_fillL (l : Launch) (ad : Nat → Nat) (E : Ev) (σ : Sg) (i n b : Nat) (y : lay[i]? = some (.inl (1, n, b))) (hn : n < 2147483648) (v : Int64) (zn : Int32) (hz2 : zn.toInt = n) (C : Cx E l (rmk 0) 5 cJ7_fill_d0a16 RJ7) (X : Rx E ad none (oV (fun τ => τ = sQ σ i (fun _ => v))))  : ∀ (m : Nat) (f : Nat → Int64) (z : Int32), (∀ j : Nat, (j : Int) < z.toInt → f j = v) → (0 ≤ z.toInt) → ((n : Int) - z.toInt).toNat < m → WP E ad 6 [some (.ref (ad i)), some (.long v), none, some (.int z), some (.int zn)] [] (sQ σ i f) := by
  intro m
  induction m with
  | zero => intro f z hf h0 hm9; exact absurd hm9 (Nat.not_lt_zero _)
  | succ m ih =>
    intro f z hf h0 hm9
    refine s_iload_n C dJ7_fill_d0a16_6 rfl ?_
    refine s_iload C dJ7_fill_d0a16_7 rfl ?_
    refine s_icmp_ge (tgt := 22) C dJ7_fill_d0a16_9 (by decide) (fun q1 => ?_) (fun q1 => ?_)
    · refine wp_rowL (g := fun _ => v) y (fun j hj => hf j (by omega)) ?_
      exact s_vret C X dJ7_fill_d0a16_22 rfl
    · refine s_aload_n C dJ7_fill_d0a16_12 rfl ?_
      refine s_iload_n C dJ7_fill_d0a16_13 rfl ?_
      refine s_lload_n C dJ7_fill_d0a16_14 rfl ?_
      refine s_last C y (by omega) dJ7_fill_d0a16_15 ?_
      refine s_iinc C dJ7_fill_d0a16_16 rfl (by decide) rfl (by decide) (by omega) (fun z2 tz2 => ?_)
      show WP E ad 19 [some (.ref (ad i)), some (.long v), none, some (.int z2), some (.int zn)] [] (sL (sQ σ i f) i z.toNatClampNeg v)
      refine s_goto (tgt := 6) C dJ7_fill_d0a16_19 (by decide) ?_
      rw [sL_sQ]
      exact ih _ z2 (fun j hj => by by_cases e : j = z.toNatClampNeg; (rw [e]; exact if_pos rfl); (refine (if_neg e).trans ?_; exact hf j (by unfold Int32.toNatClampNeg at e; omega))) (by omega) (by omega)
set_option maxRecDepth 100000 in
theorem c_J7_fill_d0a16 (l : Launch) (ad : Nat → Nat) (σ : Sg) (i n b : Nat) (y : lay[i]? = some (.inl (1, n, b))) (hn : n < 2147483648) (v : Int64) : Mt l yJ7_fill_d0a16 cJ7_fill_d0a16 5 none 0 ad σ [.ref (ad i), .long v] (oV (fun τ => τ = sQ σ i (fun _ => v))) := by
  refine Mt_intro (by decide +kernel) (by simp [lg_sl, Value.category]) (fun E C X => ?_)
  show WP E ad 0 [some (.ref (ad i)), some (.long v), none, none, none] [] σ
  refine s_iconst C dJ7_fill_d0a16_0 (by decide) (fun z1 tz1 => ?_)
  refine s_istore_n C dJ7_fill_d0a16_1 (by decide) (Nat.le_of_ble_eq_true rfl) rfl ?_
  show WP E ad 2 [some (.ref (ad i)), some (.long v), none, some (.int z1), none] [] σ
  refine s_aload_n C dJ7_fill_d0a16_2 rfl ?_
  refine s_alen1 C y (by omega) dJ7_fill_d0a16_3 (fun z2 tz2 => ?_)
  refine s_istore C dJ7_fill_d0a16_4 (by decide) (Nat.le_of_ble_eq_true rfl) rfl ?_
  show WP E ad 6 [some (.ref (ad i)), some (.long v), none, some (.int z1), some (.int z2)] [] σ
  rw [← sQ_self σ i]
  exact L_fillL l ad E σ i n b y hn v z2 (by omega) C X (n + 5) (σ.2 i) z1 (fun j hj => by omega) (by omega) (by omega)
set_option maxRecDepth 100000 in
theorem c_J6_bitCount_0f7a4 (l : Launch) (ad : Nat → Nat) (σ : Sg) (a : Int32)  : Mt l yJ6_bitCount_0f7a4 cJ6_bitCount_0f7a4 1 (some .int) 0 ad σ [.int a] (oI (fun r τ => τ = σ ∧ True)) := by
  refine Mt_intro (by decide +kernel) (by simp [lg_sl, Value.category]) (fun E C X => ?_)
  show WP E ad 0 [some (.int a)] [] σ
  refine s_iload_n C dJ6_bitCount_0f7a4_0 rfl ?_
  refine s_iload_n C dJ6_bitCount_0f7a4_1 rfl ?_
  refine s_iconst C dJ6_bitCount_0f7a4_2 (by decide) (fun z1 tz1 => ?_)
  refine s_iushr C dJ6_bitCount_0f7a4_3 (fun z2 => ?_)
  refine s_ldcw (v := 1431655765) C dJ6_bitCount_0f7a4_4 (mw 714 (by decide +kernel) rfl) ?_
  refine s_iand C dJ6_bitCount_0f7a4_7 (fun z3 tz3 => ?_)
  refine s_isubU C dJ6_bitCount_0f7a4_8 (fun z4 tz4 => ?_)
  refine s_istore_n C dJ6_bitCount_0f7a4_9 (by decide) (Nat.le_of_ble_eq_true rfl) rfl ?_
  show WP E ad 10 [some (.int z4)] [] σ
  refine s_iload_n C dJ6_bitCount_0f7a4_10 rfl ?_
  refine s_ldcw (v := 858993459) C dJ6_bitCount_0f7a4_11 (mw 715 (by decide +kernel) rfl) ?_
  refine s_iand C dJ6_bitCount_0f7a4_14 (fun z5 tz5 => ?_)
  refine s_iload_n C dJ6_bitCount_0f7a4_15 rfl ?_
  refine s_iconst C dJ6_bitCount_0f7a4_16 (by decide) (fun z6 tz6 => ?_)
  refine s_iushr C dJ6_bitCount_0f7a4_17 (fun z7 => ?_)
  refine s_ldcw (v := 858993459) C dJ6_bitCount_0f7a4_18 (mw 715 (by decide +kernel) rfl) ?_
  refine s_iand C dJ6_bitCount_0f7a4_21 (fun z8 tz8 => ?_)
  refine s_iaddU C dJ6_bitCount_0f7a4_22 (fun z9 tz9 => ?_)
  refine s_istore_n C dJ6_bitCount_0f7a4_23 (by decide) (Nat.le_of_ble_eq_true rfl) rfl ?_
  show WP E ad 24 [some (.int z9)] [] σ
  refine s_iload_n C dJ6_bitCount_0f7a4_24 rfl ?_
  refine s_iload_n C dJ6_bitCount_0f7a4_25 rfl ?_
  refine s_iconst C dJ6_bitCount_0f7a4_26 (by decide) (fun z10 tz10 => ?_)
  refine s_iushr C dJ6_bitCount_0f7a4_27 (fun z11 => ?_)
  refine s_iaddU C dJ6_bitCount_0f7a4_28 (fun z12 tz12 => ?_)
  refine s_ldcw (v := 252645135) C dJ6_bitCount_0f7a4_29 (mw 716 (by decide +kernel) rfl) ?_
  refine s_iand C dJ6_bitCount_0f7a4_32 (fun z13 tz13 => ?_)
  refine s_istore_n C dJ6_bitCount_0f7a4_33 (by decide) (Nat.le_of_ble_eq_true rfl) rfl ?_
  show WP E ad 34 [some (.int z13)] [] σ
  refine s_iload_n C dJ6_bitCount_0f7a4_34 rfl ?_
  refine s_iload_n C dJ6_bitCount_0f7a4_35 rfl ?_
  refine s_bipush C dJ6_bitCount_0f7a4_36 (by decide) (fun z14 tz14 => ?_)
  refine s_iushr C dJ6_bitCount_0f7a4_38 (fun z15 => ?_)
  refine s_iaddU C dJ6_bitCount_0f7a4_39 (fun z16 tz16 => ?_)
  refine s_istore_n C dJ6_bitCount_0f7a4_40 (by decide) (Nat.le_of_ble_eq_true rfl) rfl ?_
  show WP E ad 41 [some (.int z16)] [] σ
  refine s_iload_n C dJ6_bitCount_0f7a4_41 rfl ?_
  refine s_iload_n C dJ6_bitCount_0f7a4_42 rfl ?_
  refine s_bipush C dJ6_bitCount_0f7a4_43 (by decide) (fun z17 tz17 => ?_)
  refine s_iushr C dJ6_bitCount_0f7a4_45 (fun z18 => ?_)
  refine s_iaddU C dJ6_bitCount_0f7a4_46 (fun z19 tz19 => ?_)
  refine s_istore_n C dJ6_bitCount_0f7a4_47 (by decide) (Nat.le_of_ble_eq_true rfl) rfl ?_
  show WP E ad 48 [some (.int z19)] [] σ
  refine s_iload_n C dJ6_bitCount_0f7a4_48 rfl ?_
  refine s_bipush C dJ6_bitCount_0f7a4_49 (by decide) (fun z20 tz20 => ?_)
  refine s_iand C dJ6_bitCount_0f7a4_51 (fun z21 tz21 => ?_)
  exact s_iret C X dJ6_bitCount_0f7a4_52 ⟨rfl, trivial⟩
set_option maxRecDepth 100000 in
theorem c_X3_isMissing_0 (l : Launch) (ad : Nat → Nat) (σ : Sg)   : Mt l yX3_isMissing cX3_isMissing 1 (some .boolean) 0 ad σ [.ref (ad 40)] (oI (fun r τ => τ = σ ∧ (r.toInt = 0 ∨ r.toInt = 1) ∧ (r.toInt = 1 ↔ (σ.1 40 0).toInt = -1))) := by
  refine Mt_intro (by decide +kernel) (by simp [lg_sl, Value.category]) (fun E C X => ?_)
  show WP E ad 0 [some (.ref (ad 40))] [] σ
  refine s_aload_n C dX3_isMissing_0 rfl ?_
  refine s_get (k := 0) (x := (σ.1 40 0)) C y40 fw_X3_11 rfl rfl dX3_isMissing_1 ?_
  refine s_iconst C dX3_isMissing_4 (by decide) (fun z1 tz1 => ?_)
  refine s_icmp_ne (tgt := 12) C dX3_isMissing_5 (by decide) (fun q2 => ?_) (fun q2 => ?_)
  · refine s_iconst C dX3_isMissing_12 (by decide) (fun z3 tz3 => ?_)
    exact s_zret C (by omega) X dX3_isMissing_13 ⟨rfl, by omega⟩
  · refine s_iconst C dX3_isMissing_8 (by decide) (fun z4 tz4 => ?_)
    refine s_goto (tgt := 13) C dX3_isMissing_9 (by decide) ?_
    exact s_zret C (by omega) X dX3_isMissing_13 ⟨rfl, by omega⟩
set_option maxRecDepth 100000 in
theorem c_X3_hasPlace_0 (l : Launch) (ad : Nat → Nat) (σ : Sg) (i : Int32)  : Mt l yX3_hasPlace cX3_hasPlace 2 (some .boolean) 0 ad σ [.ref (ad 40), .int i] (oI (fun r τ => τ = σ ∧ (r.toInt = 0 ∨ r.toInt = 1) ∧ (r.toInt = 1 ↔ (0 ≤ i.toInt ∧ i.toInt < (σ.1 40 0).toInt)))) := by
  refine Mt_intro (by decide +kernel) (by simp [lg_sl, Value.category]) (fun E C X => ?_)
  show WP E ad 0 [some (.ref (ad 40)), some (.int i)] [] σ
  refine s_iload_n C dX3_hasPlace_0 rfl ?_
  refine s_if_lt (tgt := 16) C dX3_hasPlace_1 (by decide) (fun q1 => ?_) (fun q1 => ?_)
  · refine s_iconst C dX3_hasPlace_16 (by decide) (fun z2 tz2 => ?_)
    exact s_zret C (by omega) X dX3_hasPlace_17 ⟨rfl, by omega⟩
  · refine s_iload_n C dX3_hasPlace_4 rfl ?_
    refine s_aload_n C dX3_hasPlace_5 rfl ?_
    refine s_get (k := 0) (x := (σ.1 40 0)) C y40 fw_X3_11 rfl rfl dX3_hasPlace_6 ?_
    refine s_icmp_ge (tgt := 16) C dX3_hasPlace_9 (by decide) (fun q3 => ?_) (fun q3 => ?_)
    · refine s_iconst C dX3_hasPlace_16 (by decide) (fun z4 tz4 => ?_)
      exact s_zret C (by omega) X dX3_hasPlace_17 ⟨rfl, by omega⟩
    · refine s_iconst C dX3_hasPlace_12 (by decide) (fun z5 tz5 => ?_)
      refine s_goto (tgt := 17) C dX3_hasPlace_13 (by decide) ?_
      exact s_zret C (by omega) X dX3_hasPlace_17 ⟨rfl, by omega⟩
set_option maxRecDepth 100000 in
theorem c_X3_resize_0 (l : Launch) (ad : Nat → Nat) (σ : Sg) (n : Int32) : Mt l yX3_resize cX3_resize 2 none 1 ad σ [.ref (ad 40), .int n] (oV (fun τ => ∃ L : Int64, τ = sQ (sV σ 40 0 n) 58 (fun _ => L))) := by
  refine Mt_intro (by decide +kernel) (by simp [lg_sl, Value.category]) (fun E C X => ?_)
  show WP E ad 0 [some (.ref (ad 40)), some (.int n)] [] σ
  refine s_aload_n C dX3_resize_0 rfl ?_
  refine s_iload_n C dX3_resize_1 rfl ?_
  refine s_put (k := 0) C y40 fw_X3_11 fp_3_0 rfl dX3_resize_2 ?_
  refine s_aload_n C dX3_resize_5 rfl ?_
  refine s_getr (k := 1) (j := 58) C y40 fw_X3_15 rfl dX3_resize_6 ?_
  refine s_lconst C dX3_resize_9 rfl (fun L1 tL1 => ?_)
  have tL1 : L1.toInt = 0 := tL1
  refine s_callSV (st := []) C (c_J7_fill_d0a16 l ad (sV σ 40 0 n) 58 20 0 y58 (by decide) L1) cv_X3_19 rfl rfl ⟨by decide, by decide⟩ (Nat.le_of_ble_eq_true rfl) dX3_resize_10 ?_
  intro τ3 h4
  subst h4
  exact s_vret C X dX3_resize_13 ⟨_, rfl⟩
set_option maxRecDepth 100000 in
theorem c_X3_isMissing_1 (l : Launch) (ad : Nat → Nat) (σ : Sg)   : Mt l yX3_isMissing cX3_isMissing 1 (some .boolean) 0 ad σ [.ref (ad 41)] (oI (fun r τ => τ = σ ∧ (r.toInt = 0 ∨ r.toInt = 1) ∧ (r.toInt = 1 ↔ (σ.1 41 0).toInt = -1))) := by
  refine Mt_intro (by decide +kernel) (by simp [lg_sl, Value.category]) (fun E C X => ?_)
  show WP E ad 0 [some (.ref (ad 41))] [] σ
  refine s_aload_n C dX3_isMissing_0 rfl ?_
  refine s_get (k := 0) (x := (σ.1 41 0)) C y41 fw_X3_11 rfl rfl dX3_isMissing_1 ?_
  refine s_iconst C dX3_isMissing_4 (by decide) (fun z1 tz1 => ?_)
  refine s_icmp_ne (tgt := 12) C dX3_isMissing_5 (by decide) (fun q2 => ?_) (fun q2 => ?_)
  · refine s_iconst C dX3_isMissing_12 (by decide) (fun z3 tz3 => ?_)
    exact s_zret C (by omega) X dX3_isMissing_13 ⟨rfl, by omega⟩
  · refine s_iconst C dX3_isMissing_8 (by decide) (fun z4 tz4 => ?_)
    refine s_goto (tgt := 13) C dX3_isMissing_9 (by decide) ?_
    exact s_zret C (by omega) X dX3_isMissing_13 ⟨rfl, by omega⟩
set_option maxRecDepth 100000 in
theorem c_X3_hasPlace_1 (l : Launch) (ad : Nat → Nat) (σ : Sg) (i : Int32)  : Mt l yX3_hasPlace cX3_hasPlace 2 (some .boolean) 0 ad σ [.ref (ad 41), .int i] (oI (fun r τ => τ = σ ∧ (r.toInt = 0 ∨ r.toInt = 1) ∧ (r.toInt = 1 ↔ (0 ≤ i.toInt ∧ i.toInt < (σ.1 41 0).toInt)))) := by
  refine Mt_intro (by decide +kernel) (by simp [lg_sl, Value.category]) (fun E C X => ?_)
  show WP E ad 0 [some (.ref (ad 41)), some (.int i)] [] σ
  refine s_iload_n C dX3_hasPlace_0 rfl ?_
  refine s_if_lt (tgt := 16) C dX3_hasPlace_1 (by decide) (fun q1 => ?_) (fun q1 => ?_)
  · refine s_iconst C dX3_hasPlace_16 (by decide) (fun z2 tz2 => ?_)
    exact s_zret C (by omega) X dX3_hasPlace_17 ⟨rfl, by omega⟩
  · refine s_iload_n C dX3_hasPlace_4 rfl ?_
    refine s_aload_n C dX3_hasPlace_5 rfl ?_
    refine s_get (k := 0) (x := (σ.1 41 0)) C y41 fw_X3_11 rfl rfl dX3_hasPlace_6 ?_
    refine s_icmp_ge (tgt := 16) C dX3_hasPlace_9 (by decide) (fun q3 => ?_) (fun q3 => ?_)
    · refine s_iconst C dX3_hasPlace_16 (by decide) (fun z4 tz4 => ?_)
      exact s_zret C (by omega) X dX3_hasPlace_17 ⟨rfl, by omega⟩
    · refine s_iconst C dX3_hasPlace_12 (by decide) (fun z5 tz5 => ?_)
      refine s_goto (tgt := 17) C dX3_hasPlace_13 (by decide) ?_
      exact s_zret C (by omega) X dX3_hasPlace_17 ⟨rfl, by omega⟩
set_option maxRecDepth 100000 in
theorem c_X3_resize_1 (l : Launch) (ad : Nat → Nat) (σ : Sg) (n : Int32) : Mt l yX3_resize cX3_resize 2 none 1 ad σ [.ref (ad 41), .int n] (oV (fun τ => ∃ L : Int64, τ = sQ (sV σ 41 0 n) 59 (fun _ => L))) := by
  refine Mt_intro (by decide +kernel) (by simp [lg_sl, Value.category]) (fun E C X => ?_)
  show WP E ad 0 [some (.ref (ad 41)), some (.int n)] [] σ
  refine s_aload_n C dX3_resize_0 rfl ?_
  refine s_iload_n C dX3_resize_1 rfl ?_
  refine s_put (k := 0) C y41 fw_X3_11 fp_3_0 rfl dX3_resize_2 ?_
  refine s_aload_n C dX3_resize_5 rfl ?_
  refine s_getr (k := 1) (j := 59) C y41 fw_X3_15 rfl dX3_resize_6 ?_
  refine s_lconst C dX3_resize_9 rfl (fun L1 tL1 => ?_)
  have tL1 : L1.toInt = 0 := tL1
  refine s_callSV (st := []) C (c_J7_fill_d0a16 l ad (sV σ 41 0 n) 59 20 0 y59 (by decide) L1) cv_X3_19 rfl rfl ⟨by decide, by decide⟩ (Nat.le_of_ble_eq_true rfl) dX3_resize_10 ?_
  intro τ3 h4
  subst h4
  exact s_vret C X dX3_resize_13 ⟨_, rfl⟩
set_option maxRecDepth 100000 in
theorem c_X3_isMissing_2 (l : Launch) (ad : Nat → Nat) (σ : Sg)   : Mt l yX3_isMissing cX3_isMissing 1 (some .boolean) 0 ad σ [.ref (ad 42)] (oI (fun r τ => τ = σ ∧ (r.toInt = 0 ∨ r.toInt = 1) ∧ (r.toInt = 1 ↔ (σ.1 42 0).toInt = -1))) := by
  refine Mt_intro (by decide +kernel) (by simp [lg_sl, Value.category]) (fun E C X => ?_)
  show WP E ad 0 [some (.ref (ad 42))] [] σ
  refine s_aload_n C dX3_isMissing_0 rfl ?_
  refine s_get (k := 0) (x := (σ.1 42 0)) C y42 fw_X3_11 rfl rfl dX3_isMissing_1 ?_
  refine s_iconst C dX3_isMissing_4 (by decide) (fun z1 tz1 => ?_)
  refine s_icmp_ne (tgt := 12) C dX3_isMissing_5 (by decide) (fun q2 => ?_) (fun q2 => ?_)
  · refine s_iconst C dX3_isMissing_12 (by decide) (fun z3 tz3 => ?_)
    exact s_zret C (by omega) X dX3_isMissing_13 ⟨rfl, by omega⟩
  · refine s_iconst C dX3_isMissing_8 (by decide) (fun z4 tz4 => ?_)
    refine s_goto (tgt := 13) C dX3_isMissing_9 (by decide) ?_
    exact s_zret C (by omega) X dX3_isMissing_13 ⟨rfl, by omega⟩
set_option maxRecDepth 100000 in
theorem c_X3_hasPlace_2 (l : Launch) (ad : Nat → Nat) (σ : Sg) (i : Int32)  : Mt l yX3_hasPlace cX3_hasPlace 2 (some .boolean) 0 ad σ [.ref (ad 42), .int i] (oI (fun r τ => τ = σ ∧ (r.toInt = 0 ∨ r.toInt = 1) ∧ (r.toInt = 1 ↔ (0 ≤ i.toInt ∧ i.toInt < (σ.1 42 0).toInt)))) := by
  refine Mt_intro (by decide +kernel) (by simp [lg_sl, Value.category]) (fun E C X => ?_)
  show WP E ad 0 [some (.ref (ad 42)), some (.int i)] [] σ
  refine s_iload_n C dX3_hasPlace_0 rfl ?_
  refine s_if_lt (tgt := 16) C dX3_hasPlace_1 (by decide) (fun q1 => ?_) (fun q1 => ?_)
  · refine s_iconst C dX3_hasPlace_16 (by decide) (fun z2 tz2 => ?_)
    exact s_zret C (by omega) X dX3_hasPlace_17 ⟨rfl, by omega⟩
  · refine s_iload_n C dX3_hasPlace_4 rfl ?_
    refine s_aload_n C dX3_hasPlace_5 rfl ?_
    refine s_get (k := 0) (x := (σ.1 42 0)) C y42 fw_X3_11 rfl rfl dX3_hasPlace_6 ?_
    refine s_icmp_ge (tgt := 16) C dX3_hasPlace_9 (by decide) (fun q3 => ?_) (fun q3 => ?_)
    · refine s_iconst C dX3_hasPlace_16 (by decide) (fun z4 tz4 => ?_)
      exact s_zret C (by omega) X dX3_hasPlace_17 ⟨rfl, by omega⟩
    · refine s_iconst C dX3_hasPlace_12 (by decide) (fun z5 tz5 => ?_)
      refine s_goto (tgt := 17) C dX3_hasPlace_13 (by decide) ?_
      exact s_zret C (by omega) X dX3_hasPlace_17 ⟨rfl, by omega⟩
set_option maxRecDepth 100000 in
theorem c_X3_resize_2 (l : Launch) (ad : Nat → Nat) (σ : Sg) (n : Int32) : Mt l yX3_resize cX3_resize 2 none 1 ad σ [.ref (ad 42), .int n] (oV (fun τ => ∃ L : Int64, τ = sQ (sV σ 42 0 n) 60 (fun _ => L))) := by
  refine Mt_intro (by decide +kernel) (by simp [lg_sl, Value.category]) (fun E C X => ?_)
  show WP E ad 0 [some (.ref (ad 42)), some (.int n)] [] σ
  refine s_aload_n C dX3_resize_0 rfl ?_
  refine s_iload_n C dX3_resize_1 rfl ?_
  refine s_put (k := 0) C y42 fw_X3_11 fp_3_0 rfl dX3_resize_2 ?_
  refine s_aload_n C dX3_resize_5 rfl ?_
  refine s_getr (k := 1) (j := 60) C y42 fw_X3_15 rfl dX3_resize_6 ?_
  refine s_lconst C dX3_resize_9 rfl (fun L1 tL1 => ?_)
  have tL1 : L1.toInt = 0 := tL1
  refine s_callSV (st := []) C (c_J7_fill_d0a16 l ad (sV σ 42 0 n) 60 20 0 y60 (by decide) L1) cv_X3_19 rfl rfl ⟨by decide, by decide⟩ (Nat.le_of_ble_eq_true rfl) dX3_resize_10 ?_
  intro τ3 h4
  subst h4
  exact s_vret C X dX3_resize_13 ⟨_, rfl⟩
set_option maxRecDepth 100000 in
theorem c_X5_spotOf (l : Launch) (ad : Nat → Nat) (σ : Sg) (p : Int32) (k : Int32) (hp : 0 ≤ p.toInt ∧ p.toInt ≤ 3) (hk : -10 ≤ k.toInt ∧ k.toInt ≤ 100) : Mt l yX5_spotOf cX5_spotOf 2 (some .int) 0 ad σ [.int p, .int k] (oI (fun r τ => τ = σ ∧ r.toInt = 5 * p.toInt + k.toInt - 1)) := by
  refine Mt_intro (by decide +kernel) (by simp [lg_sl, Value.category]) (fun E C X => ?_)
  show WP E ad 0 [some (.int p), some (.int k)] [] σ
  refine s_iload_n C dX5_spotOf_0 rfl ?_
  refine s_iconst C dX5_spotOf_1 (by decide) (fun z1 tz1 => ?_)
  refine s_imulR C tz1 dX5_spotOf_2 (by omega) (fun z2 tz2 => ?_)
  refine s_iload_n C dX5_spotOf_3 rfl ?_
  refine s_iadd C dX5_spotOf_4 (by omega) (fun z3 tz3 => ?_)
  refine s_iconst C dX5_spotOf_5 (by decide) (fun z4 tz4 => ?_)
  refine s_isub C dX5_spotOf_6 (by omega) (fun z5 tz5 => ?_)
  exact s_iret C X dX5_spotOf_7 ⟨rfl, by omega⟩
set_option maxRecDepth 100000 in
theorem c_X5_placeOf (l : Launch) (ad : Nat → Nat) (σ : Sg) (p : Int32) (hpr : 1 ≤ (σ.1 1 0).toInt ∧ (σ.1 1 0).toInt ≤ 4) (hp : -5 ≤ p.toInt ∧ p.toInt ≤ 5) : Mt l yX5_placeOf cX5_placeOf 2 (some .int) 0 ad σ [.ref (ad 1), .int p] (oI (fun r τ => τ = σ ∧ r.toInt = (σ.1 1 0).toInt - 1 - p.toInt)) := by
  refine Mt_intro (by decide +kernel) (by simp [lg_sl, Value.category]) (fun E C X => ?_)
  show WP E ad 0 [some (.ref (ad 1)), some (.int p)] [] σ
  refine s_aload_n C dX5_placeOf_0 rfl ?_
  refine s_get (k := 0) (x := (σ.1 1 0)) C y1 fw_X5_9 rfl rfl dX5_placeOf_1 ?_
  refine s_iconst C dX5_placeOf_4 (by decide) (fun z1 tz1 => ?_)
  refine s_isub C dX5_placeOf_5 (by omega) (fun z2 tz2 => ?_)
  refine s_iload_n C dX5_placeOf_6 rfl ?_
  refine s_isub C dX5_placeOf_7 (by omega) (fun z3 tz3 => ?_)
  exact s_iret C X dX5_placeOf_8 ⟨rfl, by omega⟩
set_option maxRecDepth 100000 in
theorem c_X5_hasProcess (l : Launch) (ad : Nat → Nat) (σ : Sg) (p : Int32)  : Mt l yX5_hasProcess cX5_hasProcess 2 (some .boolean) 0 ad σ [.ref (ad 1), .int p] (oI (fun r τ => τ = σ ∧ (r.toInt = 0 ∨ r.toInt = 1) ∧ (r.toInt = 1 ↔ (0 ≤ p.toInt ∧ p.toInt < (σ.1 1 0).toInt)))) := by
  refine Mt_intro (by decide +kernel) (by simp [lg_sl, Value.category]) (fun E C X => ?_)
  show WP E ad 0 [some (.ref (ad 1)), some (.int p)] [] σ
  refine s_iload_n C dX5_hasProcess_0 rfl ?_
  refine s_if_lt (tgt := 16) C dX5_hasProcess_1 (by decide) (fun q1 => ?_) (fun q1 => ?_)
  · refine s_iconst C dX5_hasProcess_16 (by decide) (fun z2 tz2 => ?_)
    exact s_zret C (by omega) X dX5_hasProcess_17 ⟨rfl, by omega⟩
  · refine s_iload_n C dX5_hasProcess_4 rfl ?_
    refine s_aload_n C dX5_hasProcess_5 rfl ?_
    refine s_get (k := 0) (x := (σ.1 1 0)) C y1 fw_X5_9 rfl rfl dX5_hasProcess_6 ?_
    refine s_icmp_ge (tgt := 16) C dX5_hasProcess_9 (by decide) (fun q3 => ?_) (fun q3 => ?_)
    · refine s_iconst C dX5_hasProcess_16 (by decide) (fun z4 tz4 => ?_)
      exact s_zret C (by omega) X dX5_hasProcess_17 ⟨rfl, by omega⟩
    · refine s_iconst C dX5_hasProcess_12 (by decide) (fun z5 tz5 => ?_)
      refine s_goto (tgt := 17) C dX5_hasProcess_13 (by decide) ?_
      exact s_zret C (by omega) X dX5_hasProcess_17 ⟨rfl, by omega⟩
set_option maxRecDepth 100000 in
theorem c_X5_hasEvent (l : Launch) (ad : Nat → Nat) (σ : Sg) (p : Int32) (k : Int32) (hpr : 1 ≤ (σ.1 1 0).toInt ∧ (σ.1 1 0).toInt ≤ 4) : Mt l yX5_hasEvent cX5_hasEvent 3 (some .boolean) 1 ad σ [.ref (ad 1), .int p, .int k] (oI (fun r τ => τ = σ ∧ (r.toInt = 0 ∨ r.toInt = 1) ∧ (r.toInt = 1 ↔ (0 ≤ p.toInt ∧ p.toInt < (σ.1 1 0).toInt ∧ 1 ≤ k.toInt ∧ k.toInt ≤ (σ.1 3 p.toNatClampNeg).toInt)))) := by
  refine Mt_intro (by decide +kernel) (by simp [lg_sl, Value.category]) (fun E C X => ?_)
  show WP E ad 0 [some (.ref (ad 1)), some (.int p), some (.int k)] [] σ
  refine s_aload_n C dX5_hasEvent_0 rfl ?_
  refine s_iload_n C dX5_hasEvent_1 rfl ?_
  refine s_callVI (st := []) C (c_X5_hasProcess l ad σ p ) cv_X5_70 y1 rfl rfl rfl ⟨by decide, by decide⟩ (Nat.le_of_ble_eq_true rfl) dX5_hasEvent_2 ?_
  intro r1 τ2 h3
  obtain ⟨eh3, h3⟩ := h3; replace eh3 := eh3.symm; subst eh3
  refine s_if_eq (tgt := 27) C dX5_hasEvent_5 (by decide) (fun q4 => ?_) (fun q4 => ?_)
  · refine s_iconst C dX5_hasEvent_27 (by decide) (fun z5 tz5 => ?_)
    exact s_zret C (by omega) X dX5_hasEvent_28 ⟨rfl, by omega⟩
  · refine s_iload_n C dX5_hasEvent_8 rfl ?_
    refine s_iconst C dX5_hasEvent_9 (by decide) (fun z6 tz6 => ?_)
    refine s_icmp_lt (tgt := 27) C dX5_hasEvent_10 (by decide) (fun q7 => ?_) (fun q7 => ?_)
    · refine s_iconst C dX5_hasEvent_27 (by decide) (fun z8 tz8 => ?_)
      exact s_zret C (by omega) X dX5_hasEvent_28 ⟨rfl, by omega⟩
    · refine s_iload_n C dX5_hasEvent_13 rfl ?_
      refine s_aload_n C dX5_hasEvent_14 rfl ?_
      refine s_getr (k := 4) (j := 3) C y1 fw_X5_25 rfl dX5_hasEvent_15 ?_
      refine s_iload_n C dX5_hasEvent_18 rfl ?_
      refine s_iald (r := (σ.1 3 p.toNatClampNeg)) C y3 (by omega) rfl dX5_hasEvent_19 ?_
      refine s_icmp_gt (tgt := 27) C dX5_hasEvent_20 (by decide) (fun q9 => ?_) (fun q9 => ?_)
      · refine s_iconst C dX5_hasEvent_27 (by decide) (fun z10 tz10 => ?_)
        exact s_zret C (by omega) X dX5_hasEvent_28 ⟨rfl, by omega⟩
      · refine s_iconst C dX5_hasEvent_23 (by decide) (fun z11 tz11 => ?_)
        refine s_goto (tgt := 28) C dX5_hasEvent_24 (by decide) ?_
        exact s_zret C (by omega) X dX5_hasEvent_28 ⟨rfl, by omega⟩
set_option maxRecDepth 100000 in
theorem c_X5_hasMessage (l : Launch) (ad : Nat → Nat) (σ : Sg) (m : Int32)  : Mt l yX5_hasMessage cX5_hasMessage 2 (some .boolean) 0 ad σ [.ref (ad 1), .int m] (oI (fun r τ => τ = σ ∧ (r.toInt = 0 ∨ r.toInt = 1) ∧ (r.toInt = 1 ↔ (0 ≤ m.toInt ∧ m.toInt < (σ.1 1 2).toInt)))) := by
  refine Mt_intro (by decide +kernel) (by simp [lg_sl, Value.category]) (fun E C X => ?_)
  show WP E ad 0 [some (.ref (ad 1)), some (.int m)] [] σ
  refine s_iload_n C dX5_hasMessage_0 rfl ?_
  refine s_if_lt (tgt := 16) C dX5_hasMessage_1 (by decide) (fun q1 => ?_) (fun q1 => ?_)
  · refine s_iconst C dX5_hasMessage_16 (by decide) (fun z2 tz2 => ?_)
    exact s_zret C (by omega) X dX5_hasMessage_17 ⟨rfl, by omega⟩
  · refine s_iload_n C dX5_hasMessage_4 rfl ?_
    refine s_aload_n C dX5_hasMessage_5 rfl ?_
    refine s_get (k := 2) (x := (σ.1 1 2)) C y1 fw_X5_18 rfl rfl dX5_hasMessage_6 ?_
    refine s_icmp_ge (tgt := 16) C dX5_hasMessage_9 (by decide) (fun q3 => ?_) (fun q3 => ?_)
    · refine s_iconst C dX5_hasMessage_16 (by decide) (fun z4 tz4 => ?_)
      exact s_zret C (by omega) X dX5_hasMessage_17 ⟨rfl, by omega⟩
    · refine s_iconst C dX5_hasMessage_12 (by decide) (fun z5 tz5 => ?_)
      refine s_goto (tgt := 17) C dX5_hasMessage_13 (by decide) ?_
      exact s_zret C (by omega) X dX5_hasMessage_17 ⟨rfl, by omega⟩
set_option maxRecDepth 100000 in
theorem c_X5_isTaken (l : Launch) (ad : Nat → Nat) (σ : Sg) (m : Int32) (hm : 0 ≤ m.toInt ∧ m.toInt ≤ 7) : Mt l yX5_isTaken cX5_isTaken 2 (some .boolean) 0 ad σ [.ref (ad 1), .int m] (oI (fun r τ => τ = σ ∧ (r.toInt = 0 ∨ r.toInt = 1))) := by
  refine Mt_intro (by decide +kernel) (by simp [lg_sl, Value.category]) (fun E C X => ?_)
  show WP E ad 0 [some (.ref (ad 1)), some (.int m)] [] σ
  refine s_aload_n C dX5_isTaken_0 rfl ?_
  refine s_getr (k := 13) (j := 12) C y1 fw_X5_52 rfl dX5_isTaken_1 ?_
  refine s_iload_n C dX5_isTaken_4 rfl ?_
  refine s_iald (r := (σ.1 12 m.toNatClampNeg)) C y12 (by omega) rfl dX5_isTaken_5 ?_
  refine s_if_lt (tgt := 13) C dX5_isTaken_6 (by decide) (fun q1 => ?_) (fun q1 => ?_)
  · refine s_iconst C dX5_isTaken_13 (by decide) (fun z2 tz2 => ?_)
    exact s_zret C (by omega) X dX5_isTaken_14 ⟨rfl, by omega⟩
  · refine s_iconst C dX5_isTaken_9 (by decide) (fun z3 tz3 => ?_)
    refine s_goto (tgt := 14) C dX5_isTaken_10 (by decide) ?_
    exact s_zret C (by omega) X dX5_isTaken_14 ⟨rfl, by omega⟩
set_option maxRecDepth 100000 in
theorem c_X5_isFullAt (l : Launch) (ad : Nat → Nat) (σ : Sg) (p : Int32) (hp : 0 ≤ p.toInt ∧ p.toInt ≤ 3) : Mt l yX5_isFullAt cX5_isFullAt 2 (some .boolean) 0 ad σ [.ref (ad 1), .int p] (oI (fun r τ => τ = σ ∧ (r.toInt = 0 ∨ r.toInt = 1) ∧ (r.toInt = 1 ↔ 5 ≤ (σ.1 3 p.toNatClampNeg).toInt))) := by
  refine Mt_intro (by decide +kernel) (by simp [lg_sl, Value.category]) (fun E C X => ?_)
  show WP E ad 0 [some (.ref (ad 1)), some (.int p)] [] σ
  refine s_aload_n C dX5_isFullAt_0 rfl ?_
  refine s_getr (k := 4) (j := 3) C y1 fw_X5_25 rfl dX5_isFullAt_1 ?_
  refine s_iload_n C dX5_isFullAt_4 rfl ?_
  refine s_iald (r := (σ.1 3 p.toNatClampNeg)) C y3 (by omega) rfl dX5_isFullAt_5 ?_
  refine s_iconst C dX5_isFullAt_6 (by decide) (fun z1 tz1 => ?_)
  refine s_icmp_lt (tgt := 14) C dX5_isFullAt_7 (by decide) (fun q2 => ?_) (fun q2 => ?_)
  · refine s_iconst C dX5_isFullAt_14 (by decide) (fun z3 tz3 => ?_)
    exact s_zret C (by omega) X dX5_isFullAt_15 ⟨rfl, by omega⟩
  · refine s_iconst C dX5_isFullAt_10 (by decide) (fun z4 tz4 => ?_)
    refine s_goto (tgt := 15) C dX5_isFullAt_11 (by decide) ?_
    exact s_zret C (by omega) X dX5_isFullAt_15 ⟨rfl, by omega⟩
set_option maxRecDepth 100000 in
theorem c_X5_clockOf (l : Launch) (ad : Nat → Nat) (σ : Sg) (p : Int32) (k : Int32) (hp : 0 ≤ p.toInt ∧ p.toInt ≤ 3) (hk : 1 ≤ k.toInt ∧ k.toInt ≤ 5) : Mt l yX5_clockOf cX5_clockOf 3 (some .int) 1 ad σ [.ref (ad 1), .int p, .int k] (oI (fun r τ => τ = σ ∧ True)) := by
  refine Mt_intro (by decide +kernel) (by simp [lg_sl, Value.category]) (fun E C X => ?_)
  show WP E ad 0 [some (.ref (ad 1)), some (.int p), some (.int k)] [] σ
  refine s_aload_n C dX5_clockOf_0 rfl ?_
  refine s_getr (k := 10) (j := 9) C y1 fw_X5_43 rfl dX5_clockOf_1 ?_
  refine s_iload_n C dX5_clockOf_4 rfl ?_
  refine s_iload_n C dX5_clockOf_5 rfl ?_
  refine s_callSI (st := [.ref (ad 9)]) C (c_X5_spotOf l ad σ p k (by omega) (by omega)) cv_X5_74 rfl rfl ⟨by decide, by decide⟩ (Nat.le_of_ble_eq_true rfl) dX5_clockOf_6 ?_
  intro r1 τ2 h3
  obtain ⟨eh3, h3⟩ := h3; replace eh3 := eh3.symm; subst eh3
  refine s_iald (r := (σ.1 9 r1.toNatClampNeg)) C y9 (by omega) rfl dX5_clockOf_9 ?_
  exact s_iret C X dX5_clockOf_10 ⟨rfl, trivial⟩
set_option maxRecDepth 100000 in
theorem L_marks14 (l : Launch) (ad : Nat → Nat) (E : Ev) (σ : Sg) (hX : IX σ.1) (p : Int32) (hp : 0 ≤ p.toInt ∧ p.toInt ≤ 3) (C : Cx E l (rmk 1) 4 cX5_marksInAll RX5) (X : Rx E ad (some .int) (oI (fun r τ => τ = σ ∧ True))) (K : ∀ a q : Int32, q.toInt = p.toInt + 1 → WP E ad 4 [some (.ref (ad 1)), some (.int a), some (.int q), none] [] σ) : ∀ (n : Nat) (a : Int32) (z : Int32), (1 ≤ z.toInt) → (6 - z.toInt).toNat < n → WP E ad 14 [some (.ref (ad 1)), some (.int a), some (.int p), some (.int z)] [] σ := by
  intro n
  induction n with
  | zero => intro a z h0 hm9; exact absurd hm9 (Nat.not_lt_zero _)
  | succ n ih =>
    intro a z h0 hm9
    refine s_iload_n C dX5_marksInAll_14 rfl ?_
    refine s_aload_n C dX5_marksInAll_15 rfl ?_
    refine s_getr (k := 4) (j := 3) C y1 fw_X5_25 rfl dX5_marksInAll_16 ?_
    refine s_iload_n C dX5_marksInAll_19 rfl ?_
    refine s_iald (r := (σ.1 3 p.toNatClampNeg)) C y3 (by omega) rfl dX5_marksInAll_20 ?_
    have b1 := hX.ev p.toNatClampNeg
    refine s_icmp_gt (tgt := 43) C dX5_marksInAll_21 (by decide) (fun q2 => ?_) (fun q2 => ?_)
    · refine s_iinc C dX5_marksInAll_43 rfl (by decide) rfl (by decide) (by omega) (fun z3 tz3 => ?_)
      show WP E ad 46 [some (.ref (ad 1)), some (.int a), some (.int z3), some (.int z)] [] σ
      refine s_goto (tgt := 4) C dX5_marksInAll_46 (by decide) ?_
      refine wp_le (lv' := [some (.ref (ad 1)), some (.int a), some (.int z3), none]) ⟨rfl, ⟨rfl, ⟨rfl, trivial⟩⟩⟩ ?_
      exact K a z3 (by omega)
    · refine s_iload_n C dX5_marksInAll_24 rfl ?_
      refine s_aload_n C dX5_marksInAll_25 rfl ?_
      refine s_getr (k := 9) (j := 8) C y1 fw_X5_40 rfl dX5_marksInAll_26 ?_
      refine s_iload_n C dX5_marksInAll_29 rfl ?_
      refine s_iload_n C dX5_marksInAll_30 rfl ?_
      refine s_callSI (st := [.ref (ad 8), .int a]) C (c_X5_spotOf l ad σ p z (by omega) (by omega)) cv_X5_74 rfl rfl ⟨by decide, by decide⟩ (Nat.le_of_ble_eq_true rfl) dX5_marksInAll_31 ?_
      intro r4 τ5 h6
      obtain ⟨eh6, h6⟩ := h6; replace eh6 := eh6.symm; subst eh6
      refine s_iald (r := (σ.1 8 r4.toNatClampNeg)) C y8 (by omega) rfl dX5_marksInAll_34 ?_
      refine s_iaddU C dX5_marksInAll_35 (fun z7 tz7 => ?_)
      refine s_istore_n C dX5_marksInAll_36 (by decide) (Nat.le_of_ble_eq_true rfl) rfl ?_
      show WP E ad 37 [some (.ref (ad 1)), some (.int z7), some (.int p), some (.int z)] [] σ
      refine s_iinc C dX5_marksInAll_37 rfl (by decide) rfl (by decide) (by omega) (fun z8 tz8 => ?_)
      show WP E ad 40 [some (.ref (ad 1)), some (.int z7), some (.int p), some (.int z8)] [] σ
      refine s_goto (tgt := 14) C dX5_marksInAll_40 (by decide) ?_
      exact ih z7 z8 (by omega) (by omega)
set_option maxRecDepth 100000 in
theorem L_marks4 (l : Launch) (ad : Nat → Nat) (E : Ev) (σ : Sg) (hX : IX σ.1) (C : Cx E l (rmk 1) 4 cX5_marksInAll RX5) (X : Rx E ad (some .int) (oI (fun r τ => τ = σ ∧ True)))  : ∀ (n : Nat) (a : Int32) (z : Int32), (0 ≤ z.toInt) → (4 - z.toInt).toNat < n → WP E ad 4 [some (.ref (ad 1)), some (.int a), some (.int z), none] [] σ := by
  intro n
  induction n with
  | zero => intro a z h0 hm9; exact absurd hm9 (Nat.not_lt_zero _)
  | succ n ih =>
    intro a z h0 hm9
    have hpr := hX.pr
    refine s_iload_n C dX5_marksInAll_4 rfl ?_
    refine s_aload_n C dX5_marksInAll_5 rfl ?_
    refine s_get (k := 0) (x := (σ.1 1 0)) C y1 fw_X5_9 rfl rfl dX5_marksInAll_6 ?_
    refine s_icmp_ge (tgt := 49) C dX5_marksInAll_9 (by decide) (fun q1 => ?_) (fun q1 => ?_)
    · refine s_iload_n C dX5_marksInAll_49 rfl ?_
      exact s_iret C X dX5_marksInAll_50 ⟨rfl, trivial⟩
    · refine s_iconst C dX5_marksInAll_12 (by decide) (fun z2 tz2 => ?_)
      refine s_istore_n C dX5_marksInAll_13 (by decide) (Nat.le_of_ble_eq_true rfl) rfl ?_
      show WP E ad 14 [some (.ref (ad 1)), some (.int a), some (.int z), some (.int z2)] [] σ
      exact L_marks14 l ad E σ hX z (by omega) C X (fun a q h => ih a q (by omega) (by omega)) 100 a z2 (by omega) (by omega)
set_option maxRecDepth 100000 in
theorem c_X5_marksInAll (l : Launch) (ad : Nat → Nat) (σ : Sg)  (hX : IX σ.1) : Mt l yX5_marksInAll cX5_marksInAll 4 (some .int) 1 ad σ [.ref (ad 1)] (oI (fun r τ => τ = σ ∧ True)) := by
  refine Mt_intro (by decide +kernel) (by simp [lg_sl, Value.category]) (fun E C X => ?_)
  show WP E ad 0 [some (.ref (ad 1)), none, none, none] [] σ
  refine s_iconst C dX5_marksInAll_0 (by decide) (fun z1 tz1 => ?_)
  refine s_istore_n C dX5_marksInAll_1 (by decide) (Nat.le_of_ble_eq_true rfl) rfl ?_
  show WP E ad 2 [some (.ref (ad 1)), some (.int z1), none, none] [] σ
  refine s_iconst C dX5_marksInAll_2 (by decide) (fun z2 tz2 => ?_)
  refine s_istore_n C dX5_marksInAll_3 (by decide) (Nat.le_of_ble_eq_true rfl) rfl ?_
  show WP E ad 4 [some (.ref (ad 1)), some (.int z1), some (.int z2), none] [] σ
  exact L_marks4 l ad E σ hX C X 100 z1 z2 (by omega) (by omega)
set_option maxRecDepth 100000 in
theorem L_rowOf (l : Launch) (ad : Nat → Nat) (E : Ev) (σ : Sg) (hX : IX σ.1) (d : Int32) (C : Cx E l (rmk 1) 6 cX5_rowOfDigits RX5) (X : Rx E ad (some .int) (oI (fun r τ => τ = σ ∧ True)))  : ∀ (n : Nat) (a : Int32) (b : Int32) (z : Int32), (0 ≤ b.toInt) → (-1 ≤ z.toInt ∧ z.toInt ≤ 3) → (z.toInt + 1).toNat < n → WP E ad 18 [some (.ref (ad 1)), some (.int d), some (.int a), some (.int b), some (.int z), none] [] σ := by
  intro n
  induction n with
  | zero => intro a b z hb h0 hm9; exact absurd hm9 (Nat.not_lt_zero _)
  | succ n ih =>
    intro a b z hb h0 hm9
    have hpr := hX.pr
    refine s_iload C dX5_rowOfDigits_18 rfl ?_
    refine s_if_lt (tgt := 69) C dX5_rowOfDigits_20 (by decide) (fun q1 => ?_) (fun q1 => ?_)
    · refine s_iload_n C dX5_rowOfDigits_69 rfl ?_
      refine s_if_le (tgt := 77) C dX5_rowOfDigits_70 (by decide) (fun q2 => ?_) (fun q2 => ?_)
      · refine s_iload_n C dX5_rowOfDigits_77 rfl ?_
        exact s_iret C X dX5_rowOfDigits_78 ⟨rfl, trivial⟩
      · refine s_iconst C dX5_rowOfDigits_73 (by decide) (fun z3 tz3 => ?_)
        refine s_goto (tgt := 78) C dX5_rowOfDigits_74 (by decide) ?_
        exact s_iret C X dX5_rowOfDigits_78 ⟨rfl, trivial⟩
    · refine s_iload_n C dX5_rowOfDigits_23 rfl ?_
      refine s_bipush C dX5_rowOfDigits_24 (by decide) (fun z4 tz4 => ?_)
      refine s_irem C tz4 dX5_rowOfDigits_26 (by omega) (by decide) (fun z5 tz5 => ?_)
      refine s_istore C dX5_rowOfDigits_27 (by decide) (Nat.le_of_ble_eq_true rfl) rfl ?_
      show WP E ad 29 [some (.ref (ad 1)), some (.int d), some (.int a), some (.int b), some (.int z), some (.int z5)] [] σ
      refine s_iload C dX5_rowOfDigits_29 rfl ?_
      refine s_aload_n C dX5_rowOfDigits_31 rfl ?_
      refine s_getr (k := 4) (j := 3) C y1 fw_X5_25 rfl dX5_rowOfDigits_32 ?_
      refine s_iload C dX5_rowOfDigits_35 rfl ?_
      refine s_iald (r := (σ.1 3 z.toNatClampNeg)) C y3 (by omega) rfl dX5_rowOfDigits_37 ?_
      have b6 := hX.ev z.toNatClampNeg
      refine s_icmp_le (tgt := 43) C dX5_rowOfDigits_38 (by decide) (fun q7 => ?_) (fun q7 => ?_)
      · refine s_iload_n C dX5_rowOfDigits_43 rfl ?_
        refine s_iload C dX5_rowOfDigits_44 rfl ?_
        refine s_aload_n C dX5_rowOfDigits_46 rfl ?_
        refine s_iload C dX5_rowOfDigits_47 rfl ?_
        refine s_callVI (st := [.int z5, .int a]) C (c_X5_placeOf l ad σ z (by omega) (by omega)) cv_X5_86 y1 rfl rfl rfl ⟨by decide, by decide⟩ (Nat.le_of_ble_eq_true rfl) dX5_rowOfDigits_49 ?_
        intro r8 τ9 h10
        obtain ⟨eh10, h10⟩ := h10; replace eh10 := eh10.symm; subst eh10
        refine s_callSI (st := [.int z5, .int a]) C (c_X4_one l ad σ r8 ) cv_X5_90 rfl rfl ⟨by decide, by decide⟩ (Nat.le_of_ble_eq_true rfl) dX5_rowOfDigits_52 ?_
        intro r11 τ12 h13
        obtain ⟨eh13, h13⟩ := h13; replace eh13 := eh13.symm; subst eh13
        refine s_imulU C dX5_rowOfDigits_55 (fun z14 tz14 => ?_)
        refine s_iaddU C dX5_rowOfDigits_56 (fun z15 tz15 => ?_)
        refine s_istore_n C dX5_rowOfDigits_57 (by decide) (Nat.le_of_ble_eq_true rfl) rfl ?_
        show WP E ad 58 [some (.ref (ad 1)), some (.int d), some (.int z15), some (.int b), some (.int z), some (.int z5)] [] σ
        refine s_iload_n C dX5_rowOfDigits_58 rfl ?_
        refine s_bipush C dX5_rowOfDigits_59 (by decide) (fun z16 tz16 => ?_)
        refine s_idiv C tz16 dX5_rowOfDigits_61 (by omega) (by decide) (fun z17 tz17 => ?_)
        refine s_istore_n C dX5_rowOfDigits_62 (by decide) (Nat.le_of_ble_eq_true rfl) rfl ?_
        show WP E ad 63 [some (.ref (ad 1)), some (.int d), some (.int z15), some (.int z17), some (.int z), some (.int z5)] [] σ
        refine s_iinc C dX5_rowOfDigits_63 rfl (by decide) rfl (by decide) (by omega) (fun z18 tz18 => ?_)
        show WP E ad 66 [some (.ref (ad 1)), some (.int d), some (.int z15), some (.int z17), some (.int z18), some (.int z5)] [] σ
        refine s_goto (tgt := 18) C dX5_rowOfDigits_66 (by decide) ?_
        refine wp_le (lv' := [some (.ref (ad 1)), some (.int d), some (.int z15), some (.int z17), some (.int z18), none]) ⟨rfl, ⟨rfl, ⟨rfl, ⟨rfl, ⟨rfl, trivial⟩⟩⟩⟩⟩ ?_
        exact ih z15 z17 z18 (by omega) (by omega) (by omega)
      · refine s_iconst C dX5_rowOfDigits_41 (by decide) (fun z19 tz19 => ?_)
        exact s_iret C X dX5_rowOfDigits_42 ⟨rfl, trivial⟩
set_option maxRecDepth 100000 in
theorem c_X5_rowOfDigits (l : Launch) (ad : Nat → Nat) (σ : Sg) (d : Int32) (hX : IX σ.1) : Mt l yX5_rowOfDigits cX5_rowOfDigits 6 (some .int) 1 ad σ [.ref (ad 1), .int d] (oI (fun r τ => τ = σ ∧ True)) := by
  have hpr := hX.pr
  refine Mt_intro (by decide +kernel) (by simp [lg_sl, Value.category]) (fun E C X => ?_)
  show WP E ad 0 [some (.ref (ad 1)), some (.int d), none, none, none, none] [] σ
  refine s_iload_n C dX5_rowOfDigits_0 rfl ?_
  refine s_if_ge (tgt := 6) C dX5_rowOfDigits_1 (by decide) (fun q1 => ?_) (fun q1 => ?_)
  · refine s_iconst C dX5_rowOfDigits_6 (by decide) (fun z2 tz2 => ?_)
    refine s_istore_n C dX5_rowOfDigits_7 (by decide) (Nat.le_of_ble_eq_true rfl) rfl ?_
    show WP E ad 8 [some (.ref (ad 1)), some (.int d), some (.int z2), none, none, none] [] σ
    refine s_iload_n C dX5_rowOfDigits_8 rfl ?_
    refine s_istore_n C dX5_rowOfDigits_9 (by decide) (Nat.le_of_ble_eq_true rfl) rfl ?_
    show WP E ad 10 [some (.ref (ad 1)), some (.int d), some (.int z2), some (.int d), none, none] [] σ
    refine s_aload_n C dX5_rowOfDigits_10 rfl ?_
    refine s_get (k := 0) (x := (σ.1 1 0)) C y1 fw_X5_9 rfl rfl dX5_rowOfDigits_11 ?_
    refine s_iconst C dX5_rowOfDigits_14 (by decide) (fun z3 tz3 => ?_)
    refine s_isub C dX5_rowOfDigits_15 (by omega) (fun z4 tz4 => ?_)
    refine s_istore C dX5_rowOfDigits_16 (by decide) (Nat.le_of_ble_eq_true rfl) rfl ?_
    show WP E ad 18 [some (.ref (ad 1)), some (.int d), some (.int z2), some (.int d), some (.int z4), none] [] σ
    exact L_rowOf l ad E σ hX d C X 100 z2 d z4 (by omega) (by omega) (by omega)
  · refine s_iconst C dX5_rowOfDigits_4 (by decide) (fun z5 tz5 => ?_)
    exact s_iret C X dX5_rowOfDigits_5 ⟨rfl, trivial⟩
set_option maxRecDepth 100000 in
theorem L_holds (l : Launch) (ad : Nat → Nat) (E : Ev) (σ : Sg) (hX : IX σ.1) (a : Int32) (hg : GR a) (C : Cx E l (rmk 2) 4 cX5_holdsTogether RX5) (X : Rx E ad (some .boolean) (oI (fun r τ => τ = σ ∧ (r.toInt = 0 ∨ r.toInt = 1))))  : ∀ (n : Nat) (z : Int32), (0 ≤ z.toInt) → (4 - z.toInt).toNat < n → WP E ad 2 [some (.ref (ad 1)), some (.int a), some (.int z), none] [] σ := by
  intro n
  induction n with
  | zero => intro z h0 hm9; exact absurd hm9 (Nat.not_lt_zero _)
  | succ n ih =>
    intro z h0 hm9
    have hpr := hX.pr
    refine s_iload_n C dX5_holdsTogether_2 rfl ?_
    refine s_aload_n C dX5_holdsTogether_3 rfl ?_
    refine s_get (k := 0) (x := (σ.1 1 0)) C y1 fw_X5_9 rfl rfl dX5_holdsTogether_4 ?_
    refine s_icmp_ge (tgt := 49) C dX5_holdsTogether_7 (by decide) (fun q1 => ?_) (fun q1 => ?_)
    · refine s_iconst C dX5_holdsTogether_49 (by decide) (fun z2 tz2 => ?_)
      exact s_zret C (by omega) X dX5_holdsTogether_50 ⟨rfl, by omega⟩
    · refine s_iload_n C dX5_holdsTogether_10 rfl ?_
      refine s_aload_n C dX5_holdsTogether_11 rfl ?_
      refine s_iload_n C dX5_holdsTogether_12 rfl ?_
      refine s_callVI (st := [.int a]) C (c_X5_placeOf l ad σ z (by omega) (by omega)) cv_X5_86 y1 rfl rfl rfl ⟨by decide, by decide⟩ (Nat.le_of_ble_eq_true rfl) dX5_holdsTogether_13 ?_
      intro r3 τ4 h5
      obtain ⟨eh5, h5⟩ := h5; replace eh5 := eh5.symm; subst eh5
      refine s_callSI (st := []) C (c_X4_at l ad σ a r3 ) cv_X5_93 rfl rfl ⟨by decide, by decide⟩ (Nat.le_of_ble_eq_true rfl) dX5_holdsTogether_16 ?_
      intro r6 τ7 h8
      obtain ⟨eh8, h8⟩ := h8; replace eh8 := eh8.symm; subst eh8
      have gh8 : r6.toInt ≤ 5 := by rw [h8.1]; exact GR.at5 hg (by omega)
      refine s_istore_n C dX5_holdsTogether_19 (by decide) (Nat.le_of_ble_eq_true rfl) rfl ?_
      show WP E ad 20 [some (.ref (ad 1)), some (.int a), some (.int z), some (.int r6)] [] σ
      refine s_iload_n C dX5_holdsTogether_20 rfl ?_
      refine s_if_le (tgt := 43) C dX5_holdsTogether_21 (by decide) (fun q9 => ?_) (fun q9 => ?_)
      · refine s_iinc C dX5_holdsTogether_43 rfl (by decide) rfl (by decide) (by omega) (fun z10 tz10 => ?_)
        show WP E ad 46 [some (.ref (ad 1)), some (.int a), some (.int z10), some (.int r6)] [] σ
        refine s_goto (tgt := 2) C dX5_holdsTogether_46 (by decide) ?_
        refine wp_le (lv' := [some (.ref (ad 1)), some (.int a), some (.int z10), none]) ⟨rfl, ⟨rfl, ⟨rfl, trivial⟩⟩⟩ ?_
        exact ih z10 (by omega) (by omega)
      · refine s_aload_n C dX5_holdsTogether_24 rfl ?_
        refine s_getr (k := 10) (j := 9) C y1 fw_X5_43 rfl dX5_holdsTogether_25 ?_
        refine s_iload_n C dX5_holdsTogether_28 rfl ?_
        refine s_iload_n C dX5_holdsTogether_29 rfl ?_
        refine s_callSI (st := [.ref (ad 9)]) C (c_X5_spotOf l ad σ z r6 (by omega) (by omega)) cv_X5_74 rfl rfl ⟨by decide, by decide⟩ (Nat.le_of_ble_eq_true rfl) dX5_holdsTogether_30 ?_
        intro r11 τ12 h13
        obtain ⟨eh13, h13⟩ := h13; replace eh13 := eh13.symm; subst eh13
        refine s_iald (r := (σ.1 9 r11.toNatClampNeg)) C y9 (by omega) rfl dX5_holdsTogether_33 ?_
        refine s_iload_n C dX5_holdsTogether_34 rfl ?_
        refine s_callSI (st := []) C (c_X4_isWithin l ad σ ((σ.1 9 r11.toNatClampNeg)) a ) cv_X5_96 rfl rfl ⟨by decide, by decide⟩ (Nat.le_of_ble_eq_true rfl) dX5_holdsTogether_35 ?_
        intro r14 τ15 h16
        obtain ⟨eh16, h16⟩ := h16; replace eh16 := eh16.symm; subst eh16
        refine s_if_ne (tgt := 43) C dX5_holdsTogether_38 (by decide) (fun q17 => ?_) (fun q17 => ?_)
        · refine s_iinc C dX5_holdsTogether_43 rfl (by decide) rfl (by decide) (by omega) (fun z18 tz18 => ?_)
          show WP E ad 46 [some (.ref (ad 1)), some (.int a), some (.int z18), some (.int r6)] [] σ
          refine s_goto (tgt := 2) C dX5_holdsTogether_46 (by decide) ?_
          refine wp_le (lv' := [some (.ref (ad 1)), some (.int a), some (.int z18), none]) ⟨rfl, ⟨rfl, ⟨rfl, trivial⟩⟩⟩ ?_
          exact ih z18 (by omega) (by omega)
        · refine s_iconst C dX5_holdsTogether_41 (by decide) (fun z19 tz19 => ?_)
          exact s_zret C (by omega) X dX5_holdsTogether_42 ⟨rfl, by omega⟩
set_option maxRecDepth 100000 in
theorem c_X5_holdsTogether (l : Launch) (ad : Nat → Nat) (σ : Sg) (a : Int32) (hX : IX σ.1) (hg : GR a) : Mt l yX5_holdsTogether cX5_holdsTogether 4 (some .boolean) 2 ad σ [.ref (ad 1), .int a] (oI (fun r τ => τ = σ ∧ (r.toInt = 0 ∨ r.toInt = 1))) := by
  refine Mt_intro (by decide +kernel) (by simp [lg_sl, Value.category]) (fun E C X => ?_)
  show WP E ad 0 [some (.ref (ad 1)), some (.int a), none, none] [] σ
  refine s_iconst C dX5_holdsTogether_0 (by decide) (fun z1 tz1 => ?_)
  refine s_istore_n C dX5_holdsTogether_1 (by decide) (Nat.le_of_ble_eq_true rfl) rfl ?_
  show WP E ad 2 [some (.ref (ad 1)), some (.int a), some (.int z1), none] [] σ
  exact L_holds l ad E σ hX a hg C X 100 z1 (by omega) (by omega)
set_option maxRecDepth 100000 in
theorem L_ends (l : Launch) (ad : Nat → Nat) (E : Ev) (σ : Sg) (hX : IX σ.1) (a : Int32) (hg : GR a) (C : Cx E l (rmk 1) 4 cX5_endsInMarks RX5) (X : Rx E ad (some .boolean) (oI (fun r τ => τ = σ ∧ (r.toInt = 0 ∨ r.toInt = 1))))  : ∀ (n : Nat) (z : Int32), (0 ≤ z.toInt) → (4 - z.toInt).toNat < n → WP E ad 2 [some (.ref (ad 1)), some (.int a), some (.int z), none] [] σ := by
  intro n
  induction n with
  | zero => intro z h0 hm9; exact absurd hm9 (Nat.not_lt_zero _)
  | succ n ih =>
    intro z h0 hm9
    have hpr := hX.pr
    refine s_iload_n C dX5_endsInMarks_2 rfl ?_
    refine s_aload_n C dX5_endsInMarks_3 rfl ?_
    refine s_get (k := 0) (x := (σ.1 1 0)) C y1 fw_X5_9 rfl rfl dX5_endsInMarks_4 ?_
    refine s_icmp_ge (tgt := 45) C dX5_endsInMarks_7 (by decide) (fun q1 => ?_) (fun q1 => ?_)
    · refine s_iconst C dX5_endsInMarks_45 (by decide) (fun z2 tz2 => ?_)
      exact s_zret C (by omega) X dX5_endsInMarks_46 ⟨rfl, by omega⟩
    · refine s_iload_n C dX5_endsInMarks_10 rfl ?_
      refine s_aload_n C dX5_endsInMarks_11 rfl ?_
      refine s_iload_n C dX5_endsInMarks_12 rfl ?_
      refine s_callVI (st := [.int a]) C (c_X5_placeOf l ad σ z (by omega) (by omega)) cv_X5_86 y1 rfl rfl rfl ⟨by decide, by decide⟩ (Nat.le_of_ble_eq_true rfl) dX5_endsInMarks_13 ?_
      intro r3 τ4 h5
      obtain ⟨eh5, h5⟩ := h5; replace eh5 := eh5.symm; subst eh5
      refine s_callSI (st := []) C (c_X4_at l ad σ a r3 ) cv_X5_93 rfl rfl ⟨by decide, by decide⟩ (Nat.le_of_ble_eq_true rfl) dX5_endsInMarks_16 ?_
      intro r6 τ7 h8
      obtain ⟨eh8, h8⟩ := h8; replace eh8 := eh8.symm; subst eh8
      have gh8 : r6.toInt ≤ 5 := by rw [h8.1]; exact GR.at5 hg (by omega)
      refine s_istore_n C dX5_endsInMarks_19 (by decide) (Nat.le_of_ble_eq_true rfl) rfl ?_
      show WP E ad 20 [some (.ref (ad 1)), some (.int a), some (.int z), some (.int r6)] [] σ
      refine s_iload_n C dX5_endsInMarks_20 rfl ?_
      refine s_if_le (tgt := 39) C dX5_endsInMarks_21 (by decide) (fun q9 => ?_) (fun q9 => ?_)
      · refine s_iinc C dX5_endsInMarks_39 rfl (by decide) rfl (by decide) (by omega) (fun z10 tz10 => ?_)
        show WP E ad 42 [some (.ref (ad 1)), some (.int a), some (.int z10), some (.int r6)] [] σ
        refine s_goto (tgt := 2) C dX5_endsInMarks_42 (by decide) ?_
        refine wp_le (lv' := [some (.ref (ad 1)), some (.int a), some (.int z10), none]) ⟨rfl, ⟨rfl, ⟨rfl, trivial⟩⟩⟩ ?_
        exact ih z10 (by omega) (by omega)
      · refine s_aload_n C dX5_endsInMarks_24 rfl ?_
        refine s_getr (k := 9) (j := 8) C y1 fw_X5_40 rfl dX5_endsInMarks_25 ?_
        refine s_iload_n C dX5_endsInMarks_28 rfl ?_
        refine s_iload_n C dX5_endsInMarks_29 rfl ?_
        refine s_callSI (st := [.ref (ad 8)]) C (c_X5_spotOf l ad σ z r6 (by omega) (by omega)) cv_X5_74 rfl rfl ⟨by decide, by decide⟩ (Nat.le_of_ble_eq_true rfl) dX5_endsInMarks_30 ?_
        intro r11 τ12 h13
        obtain ⟨eh13, h13⟩ := h13; replace eh13 := eh13.symm; subst eh13
        refine s_iald (r := (σ.1 8 r11.toNatClampNeg)) C y8 (by omega) rfl dX5_endsInMarks_33 ?_
        refine s_if_ne (tgt := 39) C dX5_endsInMarks_34 (by decide) (fun q14 => ?_) (fun q14 => ?_)
        · refine s_iinc C dX5_endsInMarks_39 rfl (by decide) rfl (by decide) (by omega) (fun z15 tz15 => ?_)
          show WP E ad 42 [some (.ref (ad 1)), some (.int a), some (.int z15), some (.int r6)] [] σ
          refine s_goto (tgt := 2) C dX5_endsInMarks_42 (by decide) ?_
          refine wp_le (lv' := [some (.ref (ad 1)), some (.int a), some (.int z15), none]) ⟨rfl, ⟨rfl, ⟨rfl, trivial⟩⟩⟩ ?_
          exact ih z15 (by omega) (by omega)
        · refine s_iconst C dX5_endsInMarks_37 (by decide) (fun z16 tz16 => ?_)
          exact s_zret C (by omega) X dX5_endsInMarks_38 ⟨rfl, by omega⟩
set_option maxRecDepth 100000 in
theorem c_X5_endsInMarks (l : Launch) (ad : Nat → Nat) (σ : Sg) (a : Int32) (hX : IX σ.1) (hg : GR a) : Mt l yX5_endsInMarks cX5_endsInMarks 4 (some .boolean) 1 ad σ [.ref (ad 1), .int a] (oI (fun r τ => τ = σ ∧ (r.toInt = 0 ∨ r.toInt = 1))) := by
  refine Mt_intro (by decide +kernel) (by simp [lg_sl, Value.category]) (fun E C X => ?_)
  show WP E ad 0 [some (.ref (ad 1)), some (.int a), none, none] [] σ
  refine s_iconst C dX5_endsInMarks_0 (by decide) (fun z1 tz1 => ?_)
  refine s_istore_n C dX5_endsInMarks_1 (by decide) (Nat.le_of_ble_eq_true rfl) rfl ?_
  show WP E ad 2 [some (.ref (ad 1)), some (.int a), some (.int z1), none] [] σ
  exact L_ends l ad E σ hX a hg C X 100 z1 (by omega) (by omega)
set_option maxRecDepth 100000 in
theorem c_X5_valueIn (l : Launch) (ad : Nat → Nat) (σ : Sg) (a : Int32) (p : Int32) (hpr : 1 ≤ (σ.1 1 0).toInt ∧ (σ.1 1 0).toInt ≤ 4) (hg : GR a) (hp : 0 ≤ p.toInt ∧ p.toInt ≤ 3) : Mt l yX5_valueIn cX5_valueIn 4 (some .int) 1 ad σ [.ref (ad 1), .int a, .int p] (oI (fun r τ => τ = σ ∧ True)) := by
  refine Mt_intro (by decide +kernel) (by simp [lg_sl, Value.category]) (fun E C X => ?_)
  show WP E ad 0 [some (.ref (ad 1)), some (.int a), some (.int p), none] [] σ
  refine s_iload_n C dX5_valueIn_0 rfl ?_
  refine s_aload_n C dX5_valueIn_1 rfl ?_
  refine s_iload_n C dX5_valueIn_2 rfl ?_
  refine s_callVI (st := [.int a]) C (c_X5_placeOf l ad σ p (by omega) (by omega)) cv_X5_86 y1 rfl rfl rfl ⟨by decide, by decide⟩ (Nat.le_of_ble_eq_true rfl) dX5_valueIn_3 ?_
  intro r1 τ2 h3
  obtain ⟨eh3, h3⟩ := h3; replace eh3 := eh3.symm; subst eh3
  refine s_callSI (st := []) C (c_X4_at l ad σ a r1 ) cv_X5_93 rfl rfl ⟨by decide, by decide⟩ (Nat.le_of_ble_eq_true rfl) dX5_valueIn_6 ?_
  intro r4 τ5 h6
  obtain ⟨eh6, h6⟩ := h6; replace eh6 := eh6.symm; subst eh6
  have gh6 : r4.toInt ≤ 5 := by rw [h6.1]; exact GR.at5 hg (by omega)
  refine s_istore_n C dX5_valueIn_9 (by decide) (Nat.le_of_ble_eq_true rfl) rfl ?_
  show WP E ad 10 [some (.ref (ad 1)), some (.int a), some (.int p), some (.int r4)] [] σ
  refine s_iload_n C dX5_valueIn_10 rfl ?_
  refine s_if_ne (tgt := 23) C dX5_valueIn_11 (by decide) (fun q7 => ?_) (fun q7 => ?_)
  · refine s_aload_n C dX5_valueIn_23 rfl ?_
    refine s_getr (k := 7) (j := 6) C y1 fw_X5_34 rfl dX5_valueIn_24 ?_
    refine s_iload_n C dX5_valueIn_27 rfl ?_
    refine s_iload_n C dX5_valueIn_28 rfl ?_
    refine s_callSI (st := [.ref (ad 6)]) C (c_X5_spotOf l ad σ p r4 (by omega) (by omega)) cv_X5_74 rfl rfl ⟨by decide, by decide⟩ (Nat.le_of_ble_eq_true rfl) dX5_valueIn_29 ?_
    intro r8 τ9 h10
    obtain ⟨eh10, h10⟩ := h10; replace eh10 := eh10.symm; subst eh10
    refine s_iald (r := (σ.1 6 r8.toNatClampNeg)) C y6 (by omega) rfl dX5_valueIn_32 ?_
    exact s_iret C X dX5_valueIn_33 ⟨rfl, trivial⟩
  · refine s_aload_n C dX5_valueIn_14 rfl ?_
    refine s_getr (k := 3) (j := 2) C y1 fw_X5_21 rfl dX5_valueIn_15 ?_
    refine s_iload_n C dX5_valueIn_18 rfl ?_
    refine s_iald (r := (σ.1 2 p.toNatClampNeg)) C y2 (by omega) rfl dX5_valueIn_19 ?_
    refine s_goto (tgt := 33) C dX5_valueIn_20 (by decide) ?_
    exact s_iret C X dX5_valueIn_33 ⟨rfl, trivial⟩
set_option maxRecDepth 100000 in
theorem L_under (l : Launch) (ad : Nat → Nat) (E : Ev) (σ : Sg) (hX : IX σ.1) (a : Int32) (C : Cx E l (rmk 1) 6 cX5_underWay RX5) (X : Rx E ad (some .int) (oI (fun r τ => τ = σ ∧ True)))  : ∀ (n : Nat) (b : Int32) (z : Int32), (0 ≤ z.toInt) → (8 - z.toInt).toNat < n → WP E ad 4 [some (.ref (ad 1)), some (.int a), some (.int b), some (.int z), none, none] [] σ := by
  intro n
  induction n with
  | zero => intro b z h0 hm9; exact absurd hm9 (Nat.not_lt_zero _)
  | succ n ih =>
    intro b z h0 hm9
    have hpr := hX.pr
    have hms := hX.ms
    refine s_iload_n C dX5_underWay_4 rfl ?_
    refine s_aload_n C dX5_underWay_5 rfl ?_
    refine s_get (k := 2) (x := (σ.1 1 2)) C y1 fw_X5_18 rfl rfl dX5_underWay_6 ?_
    refine s_icmp_ge (tgt := 103) C dX5_underWay_9 (by decide) (fun q1 => ?_) (fun q1 => ?_)
    · refine s_iload_n C dX5_underWay_103 rfl ?_
      exact s_iret C X dX5_underWay_104 ⟨rfl, trivial⟩
    · refine s_iload_n C dX5_underWay_12 rfl ?_
      refine s_aload_n C dX5_underWay_13 rfl ?_
      refine s_aload_n C dX5_underWay_14 rfl ?_
      refine s_getr (k := 11) (j := 10) C y1 fw_X5_46 rfl dX5_underWay_15 ?_
      refine s_iload_n C dX5_underWay_18 rfl ?_
      refine s_iald (r := (σ.1 10 z.toNatClampNeg)) C y10 (by omega) rfl dX5_underWay_19 ?_
      have b2 := hX.sn z.toNatClampNeg
      refine s_callVI (st := [.int a]) C (c_X5_placeOf l ad σ ((σ.1 10 z.toNatClampNeg)) (by omega) (by omega)) cv_X5_86 y1 rfl rfl rfl ⟨by decide, by decide⟩ (Nat.le_of_ble_eq_true rfl) dX5_underWay_20 ?_
      intro r3 τ4 h5
      obtain ⟨eh5, h5⟩ := h5; replace eh5 := eh5.symm; subst eh5
      refine s_callSI (st := []) C (c_X4_at l ad σ a r3 ) cv_X5_93 rfl rfl ⟨by decide, by decide⟩ (Nat.le_of_ble_eq_true rfl) dX5_underWay_23 ?_
      intro r6 τ7 h8
      obtain ⟨eh8, h8⟩ := h8; replace eh8 := eh8.symm; subst eh8
      refine s_aload_n C dX5_underWay_26 rfl ?_
      refine s_getr (k := 12) (j := 11) C y1 fw_X5_49 rfl dX5_underWay_27 ?_
      refine s_iload_n C dX5_underWay_30 rfl ?_
      refine s_iald (r := (σ.1 11 z.toNatClampNeg)) C y11 (by omega) rfl dX5_underWay_31 ?_
      refine s_icmp_lt (tgt := 39) C dX5_underWay_32 (by decide) (fun q9 => ?_) (fun q9 => ?_)
      · refine s_iconst C dX5_underWay_39 (by decide) (fun z10 tz10 => ?_)
        refine s_istore C dX5_underWay_40 (by decide) (Nat.le_of_ble_eq_true rfl) rfl ?_
        show WP E ad 42 [some (.ref (ad 1)), some (.int a), some (.int b), some (.int z), some (.int z10), none] [] σ
        refine s_aload_n C dX5_underWay_42 rfl ?_
        refine s_getr (k := 13) (j := 12) C y1 fw_X5_52 rfl dX5_underWay_43 ?_
        refine s_iload_n C dX5_underWay_46 rfl ?_
        refine s_iald (r := (σ.1 12 z.toNatClampNeg)) C y12 (by omega) rfl dX5_underWay_47 ?_
        have b11 := hX.tk z.toNatClampNeg
        refine s_if_lt (tgt := 78) C dX5_underWay_48 (by decide) (fun q12 => ?_) (fun q12 => ?_)
        · refine s_iconst C dX5_underWay_78 (by decide) (fun z13 tz13 => ?_)
          refine s_istore C dX5_underWay_79 (by decide) (Nat.le_of_ble_eq_true rfl) rfl ?_
          show WP E ad 81 [some (.ref (ad 1)), some (.int a), some (.int b), some (.int z), some (.int z10), some (.int z13)] [] σ
          refine s_iload C dX5_underWay_81 rfl ?_
          refine s_if_eq (tgt := 97) C dX5_underWay_83 (by decide) (fun q14 => ?_) (fun q14 => ?_)
          · refine s_iinc C dX5_underWay_97 rfl (by decide) rfl (by decide) (by omega) (fun z15 tz15 => ?_)
            show WP E ad 100 [some (.ref (ad 1)), some (.int a), some (.int b), some (.int z15), some (.int z10), some (.int z13)] [] σ
            refine s_goto (tgt := 4) C dX5_underWay_100 (by decide) ?_
            refine wp_le (lv' := [some (.ref (ad 1)), some (.int a), some (.int b), some (.int z15), none, none]) ⟨rfl, ⟨rfl, ⟨rfl, ⟨rfl, trivial⟩⟩⟩⟩ ?_
            exact ih b z15 (by omega) (by omega)
          · refine s_iload C dX5_underWay_86 rfl ?_
            refine s_if_ne (tgt := 97) C dX5_underWay_88 (by decide) (fun q16 => ?_) (fun q16 => ?_)
            · refine s_iinc C dX5_underWay_97 rfl (by decide) rfl (by decide) (by omega) (fun z17 tz17 => ?_)
              show WP E ad 100 [some (.ref (ad 1)), some (.int a), some (.int b), some (.int z17), some (.int z10), some (.int z13)] [] σ
              refine s_goto (tgt := 4) C dX5_underWay_100 (by decide) ?_
              refine wp_le (lv' := [some (.ref (ad 1)), some (.int a), some (.int b), some (.int z17), none, none]) ⟨rfl, ⟨rfl, ⟨rfl, ⟨rfl, trivial⟩⟩⟩⟩ ?_
              exact ih b z17 (by omega) (by omega)
            · refine s_iload_n C dX5_underWay_91 rfl ?_
              refine s_iconst C dX5_underWay_92 (by decide) (fun z18 tz18 => ?_)
              refine s_iload_n C dX5_underWay_93 rfl ?_
              refine s_ishl C dX5_underWay_94 (fun z19 tz19 => ?_)
              refine s_ior C dX5_underWay_95 (fun z20 tz20 => ?_)
              refine s_istore_n C dX5_underWay_96 (by decide) (Nat.le_of_ble_eq_true rfl) rfl ?_
              show WP E ad 97 [some (.ref (ad 1)), some (.int a), some (.int z20), some (.int z), some (.int z10), some (.int z13)] [] σ
              refine s_iinc C dX5_underWay_97 rfl (by decide) rfl (by decide) (by omega) (fun z21 tz21 => ?_)
              show WP E ad 100 [some (.ref (ad 1)), some (.int a), some (.int z20), some (.int z21), some (.int z10), some (.int z13)] [] σ
              refine s_goto (tgt := 4) C dX5_underWay_100 (by decide) ?_
              refine wp_le (lv' := [some (.ref (ad 1)), some (.int a), some (.int z20), some (.int z21), none, none]) ⟨rfl, ⟨rfl, ⟨rfl, ⟨rfl, trivial⟩⟩⟩⟩ ?_
              exact ih z20 z21 (by omega) (by omega)
        · refine s_iload_n C dX5_underWay_51 rfl ?_
          refine s_aload_n C dX5_underWay_52 rfl ?_
          refine s_aload_n C dX5_underWay_53 rfl ?_
          refine s_getr (k := 13) (j := 12) C y1 fw_X5_52 rfl dX5_underWay_54 ?_
          refine s_iload_n C dX5_underWay_57 rfl ?_
          refine s_iald (r := (σ.1 12 z.toNatClampNeg)) C y12 (by omega) rfl dX5_underWay_58 ?_
          have b22 := hX.tk z.toNatClampNeg
          refine s_callVI (st := [.int a]) C (c_X5_placeOf l ad σ ((σ.1 12 z.toNatClampNeg)) (by omega) (by omega)) cv_X5_86 y1 rfl rfl rfl ⟨by decide, by decide⟩ (Nat.le_of_ble_eq_true rfl) dX5_underWay_59 ?_
          intro r23 τ24 h25
          obtain ⟨eh25, h25⟩ := h25; replace eh25 := eh25.symm; subst eh25
          refine s_callSI (st := []) C (c_X4_at l ad σ a r23 ) cv_X5_93 rfl rfl ⟨by decide, by decide⟩ (Nat.le_of_ble_eq_true rfl) dX5_underWay_62 ?_
          intro r26 τ27 h28
          obtain ⟨eh28, h28⟩ := h28; replace eh28 := eh28.symm; subst eh28
          refine s_aload_n C dX5_underWay_65 rfl ?_
          refine s_getr (k := 14) (j := 13) C y1 fw_X5_55 rfl dX5_underWay_66 ?_
          refine s_iload_n C dX5_underWay_69 rfl ?_
          refine s_iald (r := (σ.1 13 z.toNatClampNeg)) C y13 (by omega) rfl dX5_underWay_70 ?_
          refine s_icmp_lt (tgt := 78) C dX5_underWay_71 (by decide) (fun q29 => ?_) (fun q29 => ?_)
          · refine s_iconst C dX5_underWay_78 (by decide) (fun z30 tz30 => ?_)
            refine s_istore C dX5_underWay_79 (by decide) (Nat.le_of_ble_eq_true rfl) rfl ?_
            show WP E ad 81 [some (.ref (ad 1)), some (.int a), some (.int b), some (.int z), some (.int z10), some (.int z30)] [] σ
            refine s_iload C dX5_underWay_81 rfl ?_
            refine s_if_eq (tgt := 97) C dX5_underWay_83 (by decide) (fun q31 => ?_) (fun q31 => ?_)
            · refine s_iinc C dX5_underWay_97 rfl (by decide) rfl (by decide) (by omega) (fun z32 tz32 => ?_)
              show WP E ad 100 [some (.ref (ad 1)), some (.int a), some (.int b), some (.int z32), some (.int z10), some (.int z30)] [] σ
              refine s_goto (tgt := 4) C dX5_underWay_100 (by decide) ?_
              refine wp_le (lv' := [some (.ref (ad 1)), some (.int a), some (.int b), some (.int z32), none, none]) ⟨rfl, ⟨rfl, ⟨rfl, ⟨rfl, trivial⟩⟩⟩⟩ ?_
              exact ih b z32 (by omega) (by omega)
            · refine s_iload C dX5_underWay_86 rfl ?_
              refine s_if_ne (tgt := 97) C dX5_underWay_88 (by decide) (fun q33 => ?_) (fun q33 => ?_)
              · refine s_iinc C dX5_underWay_97 rfl (by decide) rfl (by decide) (by omega) (fun z34 tz34 => ?_)
                show WP E ad 100 [some (.ref (ad 1)), some (.int a), some (.int b), some (.int z34), some (.int z10), some (.int z30)] [] σ
                refine s_goto (tgt := 4) C dX5_underWay_100 (by decide) ?_
                refine wp_le (lv' := [some (.ref (ad 1)), some (.int a), some (.int b), some (.int z34), none, none]) ⟨rfl, ⟨rfl, ⟨rfl, ⟨rfl, trivial⟩⟩⟩⟩ ?_
                exact ih b z34 (by omega) (by omega)
              · refine s_iload_n C dX5_underWay_91 rfl ?_
                refine s_iconst C dX5_underWay_92 (by decide) (fun z35 tz35 => ?_)
                refine s_iload_n C dX5_underWay_93 rfl ?_
                refine s_ishl C dX5_underWay_94 (fun z36 tz36 => ?_)
                refine s_ior C dX5_underWay_95 (fun z37 tz37 => ?_)
                refine s_istore_n C dX5_underWay_96 (by decide) (Nat.le_of_ble_eq_true rfl) rfl ?_
                show WP E ad 97 [some (.ref (ad 1)), some (.int a), some (.int z37), some (.int z), some (.int z10), some (.int z30)] [] σ
                refine s_iinc C dX5_underWay_97 rfl (by decide) rfl (by decide) (by omega) (fun z38 tz38 => ?_)
                show WP E ad 100 [some (.ref (ad 1)), some (.int a), some (.int z37), some (.int z38), some (.int z10), some (.int z30)] [] σ
                refine s_goto (tgt := 4) C dX5_underWay_100 (by decide) ?_
                refine wp_le (lv' := [some (.ref (ad 1)), some (.int a), some (.int z37), some (.int z38), none, none]) ⟨rfl, ⟨rfl, ⟨rfl, ⟨rfl, trivial⟩⟩⟩⟩ ?_
                exact ih z37 z38 (by omega) (by omega)
          · refine s_iconst C dX5_underWay_74 (by decide) (fun z39 tz39 => ?_)
            refine s_goto (tgt := 79) C dX5_underWay_75 (by decide) ?_
            refine s_istore C dX5_underWay_79 (by decide) (Nat.le_of_ble_eq_true rfl) rfl ?_
            show WP E ad 81 [some (.ref (ad 1)), some (.int a), some (.int b), some (.int z), some (.int z10), some (.int z39)] [] σ
            refine s_iload C dX5_underWay_81 rfl ?_
            refine s_if_eq (tgt := 97) C dX5_underWay_83 (by decide) (fun q40 => ?_) (fun q40 => ?_)
            · refine s_iinc C dX5_underWay_97 rfl (by decide) rfl (by decide) (by omega) (fun z41 tz41 => ?_)
              show WP E ad 100 [some (.ref (ad 1)), some (.int a), some (.int b), some (.int z41), some (.int z10), some (.int z39)] [] σ
              refine s_goto (tgt := 4) C dX5_underWay_100 (by decide) ?_
              refine wp_le (lv' := [some (.ref (ad 1)), some (.int a), some (.int b), some (.int z41), none, none]) ⟨rfl, ⟨rfl, ⟨rfl, ⟨rfl, trivial⟩⟩⟩⟩ ?_
              exact ih b z41 (by omega) (by omega)
            · refine s_iload C dX5_underWay_86 rfl ?_
              refine s_if_ne (tgt := 97) C dX5_underWay_88 (by decide) (fun q42 => ?_) (fun q42 => ?_)
              · refine s_iinc C dX5_underWay_97 rfl (by decide) rfl (by decide) (by omega) (fun z43 tz43 => ?_)
                show WP E ad 100 [some (.ref (ad 1)), some (.int a), some (.int b), some (.int z43), some (.int z10), some (.int z39)] [] σ
                refine s_goto (tgt := 4) C dX5_underWay_100 (by decide) ?_
                refine wp_le (lv' := [some (.ref (ad 1)), some (.int a), some (.int b), some (.int z43), none, none]) ⟨rfl, ⟨rfl, ⟨rfl, ⟨rfl, trivial⟩⟩⟩⟩ ?_
                exact ih b z43 (by omega) (by omega)
              · refine s_iload_n C dX5_underWay_91 rfl ?_
                refine s_iconst C dX5_underWay_92 (by decide) (fun z44 tz44 => ?_)
                refine s_iload_n C dX5_underWay_93 rfl ?_
                refine s_ishl C dX5_underWay_94 (fun z45 tz45 => ?_)
                refine s_ior C dX5_underWay_95 (fun z46 tz46 => ?_)
                refine s_istore_n C dX5_underWay_96 (by decide) (Nat.le_of_ble_eq_true rfl) rfl ?_
                show WP E ad 97 [some (.ref (ad 1)), some (.int a), some (.int z46), some (.int z), some (.int z10), some (.int z39)] [] σ
                refine s_iinc C dX5_underWay_97 rfl (by decide) rfl (by decide) (by omega) (fun z47 tz47 => ?_)
                show WP E ad 100 [some (.ref (ad 1)), some (.int a), some (.int z46), some (.int z47), some (.int z10), some (.int z39)] [] σ
                refine s_goto (tgt := 4) C dX5_underWay_100 (by decide) ?_
                refine wp_le (lv' := [some (.ref (ad 1)), some (.int a), some (.int z46), some (.int z47), none, none]) ⟨rfl, ⟨rfl, ⟨rfl, ⟨rfl, trivial⟩⟩⟩⟩ ?_
                exact ih z46 z47 (by omega) (by omega)
      · refine s_iconst C dX5_underWay_35 (by decide) (fun z48 tz48 => ?_)
        refine s_goto (tgt := 40) C dX5_underWay_36 (by decide) ?_
        refine s_istore C dX5_underWay_40 (by decide) (Nat.le_of_ble_eq_true rfl) rfl ?_
        show WP E ad 42 [some (.ref (ad 1)), some (.int a), some (.int b), some (.int z), some (.int z48), none] [] σ
        refine s_aload_n C dX5_underWay_42 rfl ?_
        refine s_getr (k := 13) (j := 12) C y1 fw_X5_52 rfl dX5_underWay_43 ?_
        refine s_iload_n C dX5_underWay_46 rfl ?_
        refine s_iald (r := (σ.1 12 z.toNatClampNeg)) C y12 (by omega) rfl dX5_underWay_47 ?_
        have b49 := hX.tk z.toNatClampNeg
        refine s_if_lt (tgt := 78) C dX5_underWay_48 (by decide) (fun q50 => ?_) (fun q50 => ?_)
        · refine s_iconst C dX5_underWay_78 (by decide) (fun z51 tz51 => ?_)
          refine s_istore C dX5_underWay_79 (by decide) (Nat.le_of_ble_eq_true rfl) rfl ?_
          show WP E ad 81 [some (.ref (ad 1)), some (.int a), some (.int b), some (.int z), some (.int z48), some (.int z51)] [] σ
          refine s_iload C dX5_underWay_81 rfl ?_
          refine s_if_eq (tgt := 97) C dX5_underWay_83 (by decide) (fun q52 => ?_) (fun q52 => ?_)
          · refine s_iinc C dX5_underWay_97 rfl (by decide) rfl (by decide) (by omega) (fun z53 tz53 => ?_)
            show WP E ad 100 [some (.ref (ad 1)), some (.int a), some (.int b), some (.int z53), some (.int z48), some (.int z51)] [] σ
            refine s_goto (tgt := 4) C dX5_underWay_100 (by decide) ?_
            refine wp_le (lv' := [some (.ref (ad 1)), some (.int a), some (.int b), some (.int z53), none, none]) ⟨rfl, ⟨rfl, ⟨rfl, ⟨rfl, trivial⟩⟩⟩⟩ ?_
            exact ih b z53 (by omega) (by omega)
          · refine s_iload C dX5_underWay_86 rfl ?_
            refine s_if_ne (tgt := 97) C dX5_underWay_88 (by decide) (fun q54 => ?_) (fun q54 => ?_)
            · refine s_iinc C dX5_underWay_97 rfl (by decide) rfl (by decide) (by omega) (fun z55 tz55 => ?_)
              show WP E ad 100 [some (.ref (ad 1)), some (.int a), some (.int b), some (.int z55), some (.int z48), some (.int z51)] [] σ
              refine s_goto (tgt := 4) C dX5_underWay_100 (by decide) ?_
              refine wp_le (lv' := [some (.ref (ad 1)), some (.int a), some (.int b), some (.int z55), none, none]) ⟨rfl, ⟨rfl, ⟨rfl, ⟨rfl, trivial⟩⟩⟩⟩ ?_
              exact ih b z55 (by omega) (by omega)
            · refine s_iload_n C dX5_underWay_91 rfl ?_
              refine s_iconst C dX5_underWay_92 (by decide) (fun z56 tz56 => ?_)
              refine s_iload_n C dX5_underWay_93 rfl ?_
              refine s_ishl C dX5_underWay_94 (fun z57 tz57 => ?_)
              refine s_ior C dX5_underWay_95 (fun z58 tz58 => ?_)
              refine s_istore_n C dX5_underWay_96 (by decide) (Nat.le_of_ble_eq_true rfl) rfl ?_
              show WP E ad 97 [some (.ref (ad 1)), some (.int a), some (.int z58), some (.int z), some (.int z48), some (.int z51)] [] σ
              refine s_iinc C dX5_underWay_97 rfl (by decide) rfl (by decide) (by omega) (fun z59 tz59 => ?_)
              show WP E ad 100 [some (.ref (ad 1)), some (.int a), some (.int z58), some (.int z59), some (.int z48), some (.int z51)] [] σ
              refine s_goto (tgt := 4) C dX5_underWay_100 (by decide) ?_
              refine wp_le (lv' := [some (.ref (ad 1)), some (.int a), some (.int z58), some (.int z59), none, none]) ⟨rfl, ⟨rfl, ⟨rfl, ⟨rfl, trivial⟩⟩⟩⟩ ?_
              exact ih z58 z59 (by omega) (by omega)
        · refine s_iload_n C dX5_underWay_51 rfl ?_
          refine s_aload_n C dX5_underWay_52 rfl ?_
          refine s_aload_n C dX5_underWay_53 rfl ?_
          refine s_getr (k := 13) (j := 12) C y1 fw_X5_52 rfl dX5_underWay_54 ?_
          refine s_iload_n C dX5_underWay_57 rfl ?_
          refine s_iald (r := (σ.1 12 z.toNatClampNeg)) C y12 (by omega) rfl dX5_underWay_58 ?_
          have b60 := hX.tk z.toNatClampNeg
          refine s_callVI (st := [.int a]) C (c_X5_placeOf l ad σ ((σ.1 12 z.toNatClampNeg)) (by omega) (by omega)) cv_X5_86 y1 rfl rfl rfl ⟨by decide, by decide⟩ (Nat.le_of_ble_eq_true rfl) dX5_underWay_59 ?_
          intro r61 τ62 h63
          obtain ⟨eh63, h63⟩ := h63; replace eh63 := eh63.symm; subst eh63
          refine s_callSI (st := []) C (c_X4_at l ad σ a r61 ) cv_X5_93 rfl rfl ⟨by decide, by decide⟩ (Nat.le_of_ble_eq_true rfl) dX5_underWay_62 ?_
          intro r64 τ65 h66
          obtain ⟨eh66, h66⟩ := h66; replace eh66 := eh66.symm; subst eh66
          refine s_aload_n C dX5_underWay_65 rfl ?_
          refine s_getr (k := 14) (j := 13) C y1 fw_X5_55 rfl dX5_underWay_66 ?_
          refine s_iload_n C dX5_underWay_69 rfl ?_
          refine s_iald (r := (σ.1 13 z.toNatClampNeg)) C y13 (by omega) rfl dX5_underWay_70 ?_
          refine s_icmp_lt (tgt := 78) C dX5_underWay_71 (by decide) (fun q67 => ?_) (fun q67 => ?_)
          · refine s_iconst C dX5_underWay_78 (by decide) (fun z68 tz68 => ?_)
            refine s_istore C dX5_underWay_79 (by decide) (Nat.le_of_ble_eq_true rfl) rfl ?_
            show WP E ad 81 [some (.ref (ad 1)), some (.int a), some (.int b), some (.int z), some (.int z48), some (.int z68)] [] σ
            refine s_iload C dX5_underWay_81 rfl ?_
            refine s_if_eq (tgt := 97) C dX5_underWay_83 (by decide) (fun q69 => ?_) (fun q69 => ?_)
            · refine s_iinc C dX5_underWay_97 rfl (by decide) rfl (by decide) (by omega) (fun z70 tz70 => ?_)
              show WP E ad 100 [some (.ref (ad 1)), some (.int a), some (.int b), some (.int z70), some (.int z48), some (.int z68)] [] σ
              refine s_goto (tgt := 4) C dX5_underWay_100 (by decide) ?_
              refine wp_le (lv' := [some (.ref (ad 1)), some (.int a), some (.int b), some (.int z70), none, none]) ⟨rfl, ⟨rfl, ⟨rfl, ⟨rfl, trivial⟩⟩⟩⟩ ?_
              exact ih b z70 (by omega) (by omega)
            · refine s_iload C dX5_underWay_86 rfl ?_
              refine s_if_ne (tgt := 97) C dX5_underWay_88 (by decide) (fun q71 => ?_) (fun q71 => ?_)
              · refine s_iinc C dX5_underWay_97 rfl (by decide) rfl (by decide) (by omega) (fun z72 tz72 => ?_)
                show WP E ad 100 [some (.ref (ad 1)), some (.int a), some (.int b), some (.int z72), some (.int z48), some (.int z68)] [] σ
                refine s_goto (tgt := 4) C dX5_underWay_100 (by decide) ?_
                refine wp_le (lv' := [some (.ref (ad 1)), some (.int a), some (.int b), some (.int z72), none, none]) ⟨rfl, ⟨rfl, ⟨rfl, ⟨rfl, trivial⟩⟩⟩⟩ ?_
                exact ih b z72 (by omega) (by omega)
              · refine s_iload_n C dX5_underWay_91 rfl ?_
                refine s_iconst C dX5_underWay_92 (by decide) (fun z73 tz73 => ?_)
                refine s_iload_n C dX5_underWay_93 rfl ?_
                refine s_ishl C dX5_underWay_94 (fun z74 tz74 => ?_)
                refine s_ior C dX5_underWay_95 (fun z75 tz75 => ?_)
                refine s_istore_n C dX5_underWay_96 (by decide) (Nat.le_of_ble_eq_true rfl) rfl ?_
                show WP E ad 97 [some (.ref (ad 1)), some (.int a), some (.int z75), some (.int z), some (.int z48), some (.int z68)] [] σ
                refine s_iinc C dX5_underWay_97 rfl (by decide) rfl (by decide) (by omega) (fun z76 tz76 => ?_)
                show WP E ad 100 [some (.ref (ad 1)), some (.int a), some (.int z75), some (.int z76), some (.int z48), some (.int z68)] [] σ
                refine s_goto (tgt := 4) C dX5_underWay_100 (by decide) ?_
                refine wp_le (lv' := [some (.ref (ad 1)), some (.int a), some (.int z75), some (.int z76), none, none]) ⟨rfl, ⟨rfl, ⟨rfl, ⟨rfl, trivial⟩⟩⟩⟩ ?_
                exact ih z75 z76 (by omega) (by omega)
          · refine s_iconst C dX5_underWay_74 (by decide) (fun z77 tz77 => ?_)
            refine s_goto (tgt := 79) C dX5_underWay_75 (by decide) ?_
            refine s_istore C dX5_underWay_79 (by decide) (Nat.le_of_ble_eq_true rfl) rfl ?_
            show WP E ad 81 [some (.ref (ad 1)), some (.int a), some (.int b), some (.int z), some (.int z48), some (.int z77)] [] σ
            refine s_iload C dX5_underWay_81 rfl ?_
            refine s_if_eq (tgt := 97) C dX5_underWay_83 (by decide) (fun q78 => ?_) (fun q78 => ?_)
            · refine s_iinc C dX5_underWay_97 rfl (by decide) rfl (by decide) (by omega) (fun z79 tz79 => ?_)
              show WP E ad 100 [some (.ref (ad 1)), some (.int a), some (.int b), some (.int z79), some (.int z48), some (.int z77)] [] σ
              refine s_goto (tgt := 4) C dX5_underWay_100 (by decide) ?_
              refine wp_le (lv' := [some (.ref (ad 1)), some (.int a), some (.int b), some (.int z79), none, none]) ⟨rfl, ⟨rfl, ⟨rfl, ⟨rfl, trivial⟩⟩⟩⟩ ?_
              exact ih b z79 (by omega) (by omega)
            · refine s_iload C dX5_underWay_86 rfl ?_
              refine s_if_ne (tgt := 97) C dX5_underWay_88 (by decide) (fun q80 => ?_) (fun q80 => ?_)
              · refine s_iinc C dX5_underWay_97 rfl (by decide) rfl (by decide) (by omega) (fun z81 tz81 => ?_)
                show WP E ad 100 [some (.ref (ad 1)), some (.int a), some (.int b), some (.int z81), some (.int z48), some (.int z77)] [] σ
                refine s_goto (tgt := 4) C dX5_underWay_100 (by decide) ?_
                refine wp_le (lv' := [some (.ref (ad 1)), some (.int a), some (.int b), some (.int z81), none, none]) ⟨rfl, ⟨rfl, ⟨rfl, ⟨rfl, trivial⟩⟩⟩⟩ ?_
                exact ih b z81 (by omega) (by omega)
              · refine s_iload_n C dX5_underWay_91 rfl ?_
                refine s_iconst C dX5_underWay_92 (by decide) (fun z82 tz82 => ?_)
                refine s_iload_n C dX5_underWay_93 rfl ?_
                refine s_ishl C dX5_underWay_94 (fun z83 tz83 => ?_)
                refine s_ior C dX5_underWay_95 (fun z84 tz84 => ?_)
                refine s_istore_n C dX5_underWay_96 (by decide) (Nat.le_of_ble_eq_true rfl) rfl ?_
                show WP E ad 97 [some (.ref (ad 1)), some (.int a), some (.int z84), some (.int z), some (.int z48), some (.int z77)] [] σ
                refine s_iinc C dX5_underWay_97 rfl (by decide) rfl (by decide) (by omega) (fun z85 tz85 => ?_)
                show WP E ad 100 [some (.ref (ad 1)), some (.int a), some (.int z84), some (.int z85), some (.int z48), some (.int z77)] [] σ
                refine s_goto (tgt := 4) C dX5_underWay_100 (by decide) ?_
                refine wp_le (lv' := [some (.ref (ad 1)), some (.int a), some (.int z84), some (.int z85), none, none]) ⟨rfl, ⟨rfl, ⟨rfl, ⟨rfl, trivial⟩⟩⟩⟩ ?_
                exact ih z84 z85 (by omega) (by omega)
set_option maxRecDepth 100000 in
theorem c_X5_underWay (l : Launch) (ad : Nat → Nat) (σ : Sg) (a : Int32) (hX : IX σ.1) : Mt l yX5_underWay cX5_underWay 6 (some .int) 1 ad σ [.ref (ad 1), .int a] (oI (fun r τ => τ = σ ∧ True)) := by
  refine Mt_intro (by decide +kernel) (by simp [lg_sl, Value.category]) (fun E C X => ?_)
  show WP E ad 0 [some (.ref (ad 1)), some (.int a), none, none, none, none] [] σ
  refine s_iconst C dX5_underWay_0 (by decide) (fun z1 tz1 => ?_)
  refine s_istore_n C dX5_underWay_1 (by decide) (Nat.le_of_ble_eq_true rfl) rfl ?_
  show WP E ad 2 [some (.ref (ad 1)), some (.int a), some (.int z1), none, none, none] [] σ
  refine s_iconst C dX5_underWay_2 (by decide) (fun z2 tz2 => ?_)
  refine s_istore_n C dX5_underWay_3 (by decide) (Nat.le_of_ble_eq_true rfl) rfl ?_
  show WP E ad 4 [some (.ref (ad 1)), some (.int a), some (.int z1), some (.int z2), none, none] [] σ
  exact L_under l ad E σ hX a C X 100 z1 z2 (by omega) (by omega)
