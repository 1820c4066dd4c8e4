set_option maxRecDepth 100000 in
theorem c_X10_isCut (l : Launch) (ad : Nat → Nat) (σ : Sg) (i : Int32) (hI : IM σ.1)  : Mt l yX10_isCut cX10_isCut 2 (some .boolean) 3 ad σ [.ref (ad 71), .int i] (oI (fun r τ => IM τ.1 ∧ Fr [103, 104, 105, 106] [(71, 39), (71, 40)] σ τ ∧ (r.toInt = 0 ∨ r.toInt = 1) ∧ ¬ (τ.1 71 39).toInt = 0 ∧ (r.toInt = 1 ↔ (0 ≤ i.toInt ∧ i.toInt < (τ.1 71 40).toInt)))) := by
  have hpr := hI.pr
  refine Mt_intro (by decide +kernel) (by simp [lg_sl, Value.category]) (fun E C X => ?_)
  show WP E ad 0 [some (.ref (ad 71)), some (.int i)] [] σ
  refine s_aload_n C dX10_isCut_0 rfl ?_
  refine s_callVV (st := []) C (c_X10_layCuts l ad σ hI) cv_X10_219 y71 rfl rfl rfl ⟨by decide, by decide⟩ (Nat.le_of_ble_eq_true rfl) dX10_isCut_1 ?_
  intro τ2 h3
  have hIτ2 := h3.1
  have hLτ2 := h3.2.1
  have hcb := hIτ2.cu.1
  refine s_iload_n C dX10_isCut_4 rfl ?_
  refine s_i2l C dX10_isCut_5 (fun L4 tL4 => ?_)
  refine s_lconst C dX10_isCut_6 rfl (fun L5 tL5 => ?_)
  have tL5 : L5.toInt = 0 := tL5
  refine s_aload_n C dX10_isCut_7 rfl ?_
  refine s_get (k := 40) (x := (τ2.1 71 40)) C y71 fw_X10_208 rfl rfl dX10_isCut_8 ?_
  refine s_iconst C dX10_isCut_11 (by decide) (fun z6 tz6 => ?_)
  refine s_isub C dX10_isCut_12 (by omega) (fun z7 tz7 => ?_)
  refine s_i2l C dX10_isCut_13 (fun L8 tL8 => ?_)
  refine s_callSI (st := []) C (c_X10_in l ad τ2 L4 L5 L8 ) cv_X10_165 rfl rfl ⟨by decide, by decide⟩ (Nat.le_of_ble_eq_true rfl) dX10_isCut_14 ?_
  intro r9 τ10 h11
  obtain ⟨eh11, h11⟩ := h11; replace eh11 := eh11.symm; subst eh11
  exact s_zret C (by omega) X dX10_isCut_17 ⟨hIτ2, (Fr.tr Fr.rf (Fr.mo h3.2.2.1 (by decide) (by decide))), by omega, hLτ2, by omega⟩
set_option maxRecDepth 100000 in
theorem c_X10_cuts (l : Launch) (ad : Nat → Nat) (σ : Sg)  (hI : IM σ.1)  : Mt l yX10_cuts cX10_cuts 1 (some .int) 3 ad σ [.ref (ad 71)] (oI (fun r τ => IM τ.1 ∧ Fr [103, 104, 105, 106] [(71, 39), (71, 40)] σ τ ∧ True)) := by
  have hpr := hI.pr
  refine Mt_intro (by decide +kernel) (by simp [lg_sl, Value.category]) (fun E C X => ?_)
  show WP E ad 0 [some (.ref (ad 71))] [] σ
  refine s_aload_n C dX10_cuts_0 rfl ?_
  refine s_callVV (st := []) C (c_X10_layCuts l ad σ hI) cv_X10_219 y71 rfl rfl rfl ⟨by decide, by decide⟩ (Nat.le_of_ble_eq_true rfl) dX10_cuts_1 ?_
  intro τ2 h3
  have hIτ2 := h3.1
  have hLτ2 := h3.2.1
  refine s_aload_n C dX10_cuts_4 rfl ?_
  refine s_get (k := 40) (x := (τ2.1 71 40)) C y71 fw_X10_208 rfl rfl dX10_cuts_5 ?_
  exact s_iret C X dX10_cuts_8 ⟨hIτ2, (Fr.tr Fr.rf (Fr.mo h3.2.2.1 (by decide) (by decide))), trivial⟩
set_option maxRecDepth 100000 in
theorem c_X10_cut (l : Launch) (ad : Nat → Nat) (σ : Sg) (i : Int32) (hI : IM σ.1)  : Mt l yX10_cut cX10_cut 2 (some .int) 4 ad σ [.ref (ad 71), .int i] (oI (fun r τ => IM τ.1 ∧ Fr [103, 104, 105, 106] [(71, 39), (71, 40)] σ τ ∧ True)) := by
  have hpr := hI.pr
  refine Mt_intro (by decide +kernel) (by simp [lg_sl, Value.category]) (fun E C X => ?_)
  show WP E ad 0 [some (.ref (ad 71)), some (.int i)] [] σ
  refine s_aload_n C dX10_cut_0 rfl ?_
  refine s_iload_n C dX10_cut_1 rfl ?_
  refine s_callVI (st := []) C (c_X10_isCut l ad σ i hI) cv_X10_222 y71 rfl rfl rfl ⟨by decide, by decide⟩ (Nat.le_of_ble_eq_true rfl) dX10_cut_2 ?_
  intro r1 τ2 h3
  have hIτ2 := h3.1
  have hRτ2 := h3.2.2
  have hLτ2 := h3.2.2.2.1
  have hBτ2 := hIτ2.cu.1
  refine s_if_eq (tgt := 17) C dX10_cut_5 (by decide) (fun q4 => ?_) (fun q4 => ?_)
  · refine s_iconst C dX10_cut_17 (by decide) (fun z5 tz5 => ?_)
    exact s_iret C X dX10_cut_18 ⟨hIτ2, (Fr.tr Fr.rf (Fr.mo h3.2.1 (by decide) (by decide))), trivial⟩
  · refine s_aload_n C dX10_cut_8 rfl ?_
    refine s_getr (k := 41) (j := 103) C y71 fw_X10_110 rfl dX10_cut_9 ?_
    refine s_iload_n C dX10_cut_12 rfl ?_
    refine s_iald (r := (τ2.1 103 i.toNatClampNeg)) C y103 (by omega) rfl dX10_cut_13 ?_
    refine s_goto (tgt := 18) C dX10_cut_14 (by decide) ?_
    exact s_iret C X dX10_cut_18 ⟨hIτ2, (Fr.tr Fr.rf (Fr.mo h3.2.1 (by decide) (by decide))), trivial⟩
