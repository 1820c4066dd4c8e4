def FaM (U : Nat → Nat → Int32) (c r : Int32) : Prop := (¬ (0 ≤ c.toInt ∧ c.toInt ≤ 2) → r.toInt = -1) ∧ ((0 ≤ c.toInt ∧ c.toInt ≤ 2) → (r.toInt = -3 ∧ (U 84 c.toNatClampNeg).toInt = 0) ∨ (r.toInt = 1 ∧ ¬ (U 84 c.toNatClampNeg).toInt = 0))
def FdM (U V : Nat → Nat → Int32) (c r : Int32) : Prop := ((0 ≤ c.toInt ∧ c.toInt ≤ 2) ∧ r.toInt = 1 → ∃ z : Int32, z.toInt = 0 ∧ V 84 = upd (U 84) c.toNatClampNeg z) ∧ (¬ ((0 ≤ c.toInt ∧ c.toInt ≤ 2) ∧ r.toInt = 1) → V 84 = U 84)
def RdM (U V : Nat → Nat → Int32) (c r : Int32) : Prop := ((0 ≤ c.toInt ∧ c.toInt ≤ 2) ∧ 0 ≤ r.toInt → 0 < (U 71 17).toInt ∧ V 84 = upd (U 84) c.toNatClampNeg (U 71 17)) ∧ (¬ ((0 ≤ c.toInt ∧ c.toInt ≤ 2) ∧ 0 ≤ r.toInt) → V 84 = U 84)
theorem Au_pos {pr : Int} {t : Nat → Int32} {n : Nat} (h : Au pr t n 0 [] 0 < 0) : 0 < n := by
  rcases Nat.eq_zero_or_pos n with e | e
  · rw [Au_end (by omega), if_pos (Or.inl (by omega))] at h
    omega
  · exact e
set_option maxRecDepth 100000 in
theorem f_wrongCondition (l : Launch) (ad : Nat → Nat) (σ : Sg) (c : Int32) (hI : IM σ.1) : Mt l yX10_wrongCondition cX10_wrongCondition 2 (some .int) 2 ad σ [.ref (ad 71), .int c] (oI (fun r τ => τ = σ ∧ (¬ (0 ≤ c.toInt ∧ c.toInt ≤ 2) → r.toInt = -1) ∧ ((0 ≤ c.toInt ∧ c.toInt ≤ 2) → (r.toInt = -3 ∧ (σ.1 84 c.toNatClampNeg).toInt = 0) ∨ (r.toInt = 0 ∧ ¬ (σ.1 84 c.toNatClampNeg).toInt = 0)))) := by
  have hpr := hI.pr
  have htot := hI.tot
  have hms := hI.ms
  have htp := hI.tp
  refine Mt_intro (by decide +kernel) (by simp [lg_sl, Value.category]) (fun E C X => ?_)
  show WP E ad 0 [some (.ref (ad 71)), some (.int c)] [] σ
  refine s_iload_n C dX10_wrongCondition_0 rfl ?_
  refine s_callSI (st := []) C (c_X10_isCondition l ad σ c ) cv_X10_274 rfl rfl ⟨by decide, by decide⟩ (Nat.le_of_ble_eq_true rfl) dX10_wrongCondition_1 ?_
  intro r1 τ2 h3
  obtain ⟨eh3, h3⟩ := h3; replace eh3 := eh3.symm; subst eh3
  refine s_if_ne (tgt := 11) C dX10_wrongCondition_4 (by decide) (fun q4 => ?_) (fun q4 => ?_)
  · refine s_aload_n C dX10_wrongCondition_11 rfl ?_
    refine s_getr (k := 15) (j := 84) C y71 fw_X10_52 rfl dX10_wrongCondition_12 ?_
    refine s_iload_n C dX10_wrongCondition_15 rfl ?_
    refine s_iald (r := (σ.1 84 c.toNatClampNeg)) C y84 (by omega) rfl dX10_wrongCondition_16 ?_
    have b5 := hI.tm c.toNatClampNeg
    refine s_if_ne (tgt := 25) C dX10_wrongCondition_17 (by decide) (fun q6 => ?_) (fun q6 => ?_)
    · refine s_iconst C dX10_wrongCondition_25 (by decide) (fun z7 tz7 => ?_)
      exact s_iret C X dX10_wrongCondition_26 ⟨rfl, (fun q => by omega), fun q => by omega⟩
    · refine s_bipush C dX10_wrongCondition_20 (by decide) (fun z8 tz8 => ?_)
      refine s_goto (tgt := 26) C dX10_wrongCondition_22 (by decide) ?_
      exact s_iret C X dX10_wrongCondition_26 ⟨rfl, (fun q => by omega), fun q => by omega⟩
  · refine s_iconst C dX10_wrongCondition_7 (by decide) (fun z9 tz9 => ?_)
    refine s_goto (tgt := 26) C dX10_wrongCondition_8 (by decide) ?_
    exact s_iret C X dX10_wrongCondition_26 ⟨rfl, (fun q => by omega), fun q => by omega⟩
set_option maxRecDepth 100000 in
theorem f_X10_forget (l : Launch) (ad : Nat → Nat) (σ : Sg) (c : Int32) (hI : IM σ.1) : Mt l yX10_forget cX10_forget 3 (some .int) 3 ad σ [.ref (ad 71), .int c] (oI (fun r τ => IM τ.1 ∧ Fr [84] [] σ τ ∧ FaM σ.1 c r ∧ FdM σ.1 τ.1 c r)) := by
  have hpr := hI.pr
  have htot := hI.tot
  have hms := hI.ms
  have htp := hI.tp
  refine Mt_intro (by decide +kernel) (by simp [lg_sl, Value.category]) (fun E C X => ?_)
  show WP E ad 0 [some (.ref (ad 71)), some (.int c), none] [] σ
  refine s_aload_n C dX10_forget_0 rfl ?_
  refine s_iload_n C dX10_forget_1 rfl ?_
  refine s_callVI (st := []) C (f_wrongCondition l ad σ c hI) cv_X10_305 y71 rfl rfl rfl ⟨by decide, by decide⟩ (Nat.le_of_ble_eq_true rfl) dX10_forget_2 ?_
  intro r1 τ2 h3
  obtain ⟨eh3, h3⟩ := h3; replace eh3 := eh3.symm; subst eh3
  obtain ⟨k1h3, k2h3⟩ := h3
  refine s_istore_n C dX10_forget_5 (by decide) (Nat.le_of_ble_eq_true rfl) rfl ?_
  show WP E ad 6 [some (.ref (ad 71)), some (.int c), some (.int r1)] [] σ
  refine s_iload_n C dX10_forget_6 rfl ?_
  refine s_if_ge (tgt := 12) C dX10_forget_7 (by decide) (fun q4 => ?_) (fun q4 => ?_)
  · refine s_aload_n C dX10_forget_12 rfl ?_
    refine s_getr (k := 15) (j := 84) C y71 fw_X10_52 rfl dX10_forget_13 ?_
    refine s_iload_n C dX10_forget_16 rfl ?_
    refine s_iconst C dX10_forget_17 (by decide) (fun z5 tz5 => ?_)
    refine s_iast C y84 (by omega) dX10_forget_18 ?_
    refine s_iconst C dX10_forget_19 (by decide) (fun z6 tz6 => ?_)
    exact s_iret C X dX10_forget_20 ⟨⟨hI.1, hI.2.1, hI.2.2.1, hI.2.2.2.1, tx_forget hI.2.2.2.2.1 (by omega), hI.2.2.2.2.2.1, hI.2.2.2.2.2.2⟩, (Fr.sV Fr.rf (Or.inl (by decide))), ⟨(fun q => by omega), fun q => by omega⟩, ⟨(fun _ => ⟨z5, by omega, rfl⟩), fun q => absurd ⟨by omega, by omega⟩ q⟩⟩
  · refine s_iload_n C dX10_forget_10 rfl ?_
    exact s_iret C X dX10_forget_11 ⟨hI, Fr.rf, ⟨(fun q => by omega), fun q => by omega⟩, ⟨(fun q => by omega), fun _ => rfl⟩⟩
set_option maxRecDepth 100000 in
theorem L3_processes2 (l : Launch) (ad : Nat → Nat) (E : Ev) (σ : Sg) (hI : IM σ.1) (n2 : Int32) (hw : n2 = σ.1 71 0) (n : Int32) (hn : 1 ≤ n.toInt ∧ n.toInt ≤ 4) (C : Cx E l (rmk 1) 4 cX10_processes RX10) (X : Rx E ad (some .int) (oI (fun r τ => IM τ.1 ∧ Fr [72, 73, 84] [(71, 0), (71, 8), (71, 10), (71, 39)] σ τ ∧ (((1 ≤ n.toInt ∧ n.toInt ≤ 4) ∧ r = σ.1 71 0 ∧ τ.1 71 0 = n ∧ ∀ j : Nat, (j : Int) < 4 → (τ.1 72 j).toInt = 0) ∨ (¬ (1 ≤ n.toInt ∧ n.toInt ≤ 4) ∧ r.toInt = -2 ∧ τ.1 71 0 = σ.1 71 0 ∧ τ.1 72 = σ.1 72)) ∧ (((1 ≤ n.toInt ∧ n.toInt ≤ 4) → ∀ j : Nat, (j : Int) < 3 → (τ.1 84 j).toInt = 0) ∧ (¬ (1 ≤ n.toInt ∧ n.toInt ≤ 4) → τ.1 84 = σ.1 84)))))  : ∀ (mm : Nat) (τ : Sg) (z : Int32), (Fr [72, 73, 84] [(71, 0), (71, 8), (71, 10), (71, 39)] σ τ) → (τ.1 71 0 = n) → ((τ.1 71 8).toInt = 0) → ((τ.1 71 10).toInt = 0) → (∀ j : Nat, (j : Int) < 4 → (τ.1 72 j).toInt = 0) → (∀ j : Nat, (j : Int) < 4 → (τ.1 73 j).toInt = 0) → (∀ j, 0 ≤ (τ.1 73 j).toInt ∧ (τ.1 73 j).toInt ≤ 5) → (∀ j, 0 ≤ (τ.1 84 j).toInt ∧ (τ.1 84 j).toInt ≤ 60) → (∀ j : Nat, (j : Int) < z.toInt → (τ.1 84 j).toInt = 0) → (0 ≤ z.toInt ∧ z.toInt ≤ 3) → (3 - z.toInt).toNat < mm → WP E ad 64 [some (.ref (ad 71)), some (.int n), some (.int n2), some (.int z)] [] τ := by
  intro mm
  induction mm with
  | zero => intro τ z kF k0 k1 k2 ks kz kB kT hz h0 hm9; exact absurd hm9 (Nat.not_lt_zero _)
  | succ mm ih =>
    intro τ z kF k0 k1 k2 ks kz kB kT hz h0 hm9
    refine s_iload_n C dX10_processes_64 rfl ?_
    refine s_iconst C dX10_processes_65 (by decide) (fun z1 tz1 => ?_)
    refine s_icmp_ge (tgt := 82) C dX10_processes_66 (by decide) (fun q2 => ?_) (fun q2 => ?_)
    · refine s_aload_n C dX10_processes_82 rfl ?_
      refine s_iconst C dX10_processes_83 (by decide) (fun z3 tz3 => ?_)
      refine s_putz (k := 39) C y71 fw_X10_181 fp_9_39 rfl (by omega) dX10_processes_84 ?_
      refine s_iload_n C dX10_processes_87 rfl ?_
      exact s_iret C X dX10_processes_88 ⟨im_new hI kF k0 k1 k2 hn kz kB kT (fun j hj => hz j (by omega)) (by omega), (Fr.sV (Fr.tr Fr.rf (Fr.mo kF (by decide) (by decide))) (Or.inr (by decide))), Or.inl ⟨hn, hw, k0, ks⟩, (fun _ j hj => hz j (by omega)), fun q => absurd hn q⟩
    · refine s_aload_n C dX10_processes_69 rfl ?_
      refine s_getr (k := 15) (j := 84) C y71 fw_X10_52 rfl dX10_processes_70 ?_
      refine s_iload_n C dX10_processes_73 rfl ?_
      refine s_iconst C dX10_processes_74 (by decide) (fun z4 tz4 => ?_)
      refine s_iast C y84 (by omega) dX10_processes_75 ?_
      refine s_iinc C dX10_processes_76 rfl (by decide) rfl (by decide) (by omega) (fun z5 tz5 => ?_)
      show WP E ad 79 [some (.ref (ad 71)), some (.int n), some (.int n2), some (.int z5)] [] (sV τ 84 z.toNatClampNeg z4)
      refine s_goto (tgt := 64) C dX10_processes_79 (by decide) ?_
      exact ih (sV τ 84 z.toNatClampNeg z4) z5 (Fr.sV (Fr.tr Fr.rf (Fr.mo kF (by decide) (by decide))) (Or.inl (by decide))) k0 k1 k2 ks kz kB (up_iv kT _ (by omega)) (up_z hz (by omega) (by omega) (by omega)) (by omega) (by omega)
set_option maxRecDepth 100000 in
theorem L3_processes1 (l : Launch) (ad : Nat → Nat) (E : Ev) (σ : Sg) (hI : IM σ.1) (n2 : Int32) (hw : n2 = σ.1 71 0) (n : Int32) (hn : 1 ≤ n.toInt ∧ n.toInt ≤ 4) (C : Cx E l (rmk 1) 4 cX10_processes RX10) (X : Rx E ad (some .int) (oI (fun r τ => IM τ.1 ∧ Fr [72, 73, 84] [(71, 0), (71, 8), (71, 10), (71, 39)] σ τ ∧ (((1 ≤ n.toInt ∧ n.toInt ≤ 4) ∧ r = σ.1 71 0 ∧ τ.1 71 0 = n ∧ ∀ j : Nat, (j : Int) < 4 → (τ.1 72 j).toInt = 0) ∨ (¬ (1 ≤ n.toInt ∧ n.toInt ≤ 4) ∧ r.toInt = -2 ∧ τ.1 71 0 = σ.1 71 0 ∧ τ.1 72 = σ.1 72)) ∧ (((1 ≤ n.toInt ∧ n.toInt ≤ 4) → ∀ j : Nat, (j : Int) < 3 → (τ.1 84 j).toInt = 0) ∧ (¬ (1 ≤ n.toInt ∧ n.toInt ≤ 4) → τ.1 84 = σ.1 84)))))  : ∀ (mm : Nat) (τ : Sg) (z : Int32), (Fr [72, 73] [(71, 0), (71, 8), (71, 10), (71, 39)] σ τ) → (τ.1 71 0 = n) → ((τ.1 71 8).toInt = 0) → ((τ.1 71 10).toInt = 0) → (∀ j, 0 ≤ (τ.1 73 j).toInt ∧ (τ.1 73 j).toInt ≤ 5) → (∀ j : Nat, (j : Int) < z.toInt → (τ.1 72 j).toInt = 0) → (∀ j : Nat, (j : Int) < z.toInt → (τ.1 73 j).toInt = 0) → (0 ≤ z.toInt ∧ z.toInt ≤ 4) → (4 - z.toInt).toNat < mm → WP E ad 37 [some (.ref (ad 71)), some (.int n), some (.int n2), some (.int z)] [] τ := by
  intro mm
  induction mm with
  | zero => intro τ z kF k0 k1 k2 kB ks hz h0 hm9; exact absurd hm9 (Nat.not_lt_zero _)
  | succ mm ih =>
    intro τ z kF k0 k1 k2 kB ks hz h0 hm9
    refine s_iload_n C dX10_processes_37 rfl ?_
    refine s_iconst C dX10_processes_38 (by decide) (fun z1 tz1 => ?_)
    refine s_icmp_ge (tgt := 62) C dX10_processes_39 (by decide) (fun q2 => ?_) (fun q2 => ?_)
    · refine s_iconst C dX10_processes_62 (by decide) (fun z3 tz3 => ?_)
      refine s_istore_n C dX10_processes_63 (by decide) (Nat.le_of_ble_eq_true rfl) rfl ?_
      show WP E ad 64 [some (.ref (ad 71)), some (.int n), some (.int n2), some (.int z3)] [] τ
      exact L3_processes2 l ad E σ hI n2 hw n hn C X 100 τ z3 (kF.mo (by decide) (by decide)) k0 k1 k2 (fun j hj => ks j (by omega)) (fun j hj => hz j (by omega)) kB (by rw [kF.a 84 (by decide) (by decide)]; exact hI.tm) (fun j hj => by omega) (by omega) (by omega)
    · refine s_aload_n C dX10_processes_42 rfl ?_
      refine s_getr (k := 1) (j := 72) C y71 fw_X10_15 rfl dX10_processes_43 ?_
      refine s_iload_n C dX10_processes_46 rfl ?_
      refine s_iconst C dX10_processes_47 (by decide) (fun z4 tz4 => ?_)
      refine s_iast C y72 (by omega) dX10_processes_48 ?_
      refine s_aload_n C dX10_processes_49 rfl ?_
      refine s_getr (k := 2) (j := 73) C y71 fw_X10_19 rfl dX10_processes_50 ?_
      refine s_iload_n C dX10_processes_53 rfl ?_
      refine s_iconst C dX10_processes_54 (by decide) (fun z5 tz5 => ?_)
      refine s_iast C y73 (by omega) dX10_processes_55 ?_
      refine s_iinc C dX10_processes_56 rfl (by decide) rfl (by decide) (by omega) (fun z6 tz6 => ?_)
      show WP E ad 59 [some (.ref (ad 71)), some (.int n), some (.int n2), some (.int z6)] [] (sV (sV τ 72 z.toNatClampNeg z4) 73 z.toNatClampNeg z5)
      refine s_goto (tgt := 37) C dX10_processes_59 (by decide) ?_
      exact ih (sV (sV τ 72 z.toNatClampNeg z4) 73 z.toNatClampNeg z5) z6 (Fr.sV (Fr.sV (Fr.tr Fr.rf (Fr.mo kF (by decide) (by decide))) (Or.inl (by decide))) (Or.inl (by decide))) k0 k1 k2 (up_iv kB _ (by omega)) (up_z ks (by omega) (by omega) (by omega)) (up_z hz (by omega) (by omega) (by omega)) (by omega) (by omega)
set_option maxRecDepth 100000 in
theorem f_X10_processes (l : Launch) (ad : Nat → Nat) (σ : Sg) (n : Int32) (hI : IM σ.1) : Mt l yX10_processes cX10_processes 4 (some .int) 1 ad σ [.ref (ad 71), .int n] (oI (fun r τ => IM τ.1 ∧ Fr [72, 73, 84] [(71, 0), (71, 8), (71, 10), (71, 39)] σ τ ∧ (((1 ≤ n.toInt ∧ n.toInt ≤ 4) ∧ r = σ.1 71 0 ∧ τ.1 71 0 = n ∧ ∀ j : Nat, (j : Int) < 4 → (τ.1 72 j).toInt = 0) ∨ (¬ (1 ≤ n.toInt ∧ n.toInt ≤ 4) ∧ r.toInt = -2 ∧ τ.1 71 0 = σ.1 71 0 ∧ τ.1 72 = σ.1 72)) ∧ (((1 ≤ n.toInt ∧ n.toInt ≤ 4) → ∀ j : Nat, (j : Int) < 3 → (τ.1 84 j).toInt = 0) ∧ (¬ (1 ≤ n.toInt ∧ n.toInt ≤ 4) → τ.1 84 = σ.1 84)))) := by
  refine Mt_intro (by decide +kernel) (by simp [lg_sl, Value.category]) (fun E C X => ?_)
  show WP E ad 0 [some (.ref (ad 71)), some (.int n), none, none] [] σ
  refine s_iload_n C dX10_processes_0 rfl ?_
  refine s_i2l C dX10_processes_1 (fun L1 tL1 => ?_)
  refine s_lconst C dX10_processes_2 rfl (fun L2 tL2 => ?_)
  have tL2 : L2.toInt = 1 := tL2
  obtain ⟨L3, eL3⟩ : ∃ q : Int64, q = 4 := ⟨_, rfl⟩
  have tL3 : L3.toInt = 4 := by rw [eL3]; rfl
  refine s_ldc2 (v := L3) C dX10_processes_3 (by rw [eL3]; exact mw 1182 (by decide +kernel) rfl) ?_
  refine s_callSI (st := []) C (c_X10_in l ad σ L1 L2 L3 ) cv_X10_165 rfl rfl ⟨by decide, by decide⟩ (Nat.le_of_ble_eq_true rfl) dX10_processes_6 ?_
  intro r4 τ5 h6
  obtain ⟨eh6, h6⟩ := h6; replace eh6 := eh6.symm; subst eh6
  refine s_if_ne (tgt := 15) C dX10_processes_9 (by decide) (fun q7 => ?_) (fun q7 => ?_)
  · refine s_aload_n C dX10_processes_15 rfl ?_
    refine s_get (k := 0) (x := (σ.1 71 0)) C y71 fw_X10_9 rfl rfl dX10_processes_16 ?_
    refine s_istore_n C dX10_processes_19 (by decide) (Nat.le_of_ble_eq_true rfl) rfl ?_
    show WP E ad 20 [some (.ref (ad 71)), some (.int n), some (.int (σ.1 71 0)), none] [] σ
    refine s_aload_n C dX10_processes_20 rfl ?_
    refine s_iload_n C dX10_processes_21 rfl ?_
    refine s_put (k := 0) C y71 fw_X10_9 fp_9_0 rfl dX10_processes_22 ?_
    refine s_aload_n C dX10_processes_25 rfl ?_
    refine s_iconst C dX10_processes_26 (by decide) (fun z8 tz8 => ?_)
    refine s_put (k := 8) C y71 fw_X10_175 fp_9_8 rfl dX10_processes_27 ?_
    refine s_aload_n C dX10_processes_30 rfl ?_
    refine s_iconst C dX10_processes_31 (by decide) (fun z9 tz9 => ?_)
    refine s_put (k := 10) C y71 fw_X10_178 fp_9_10 rfl dX10_processes_32 ?_
    refine s_iconst C dX10_processes_35 (by decide) (fun z10 tz10 => ?_)
    refine s_istore_n C dX10_processes_36 (by decide) (Nat.le_of_ble_eq_true rfl) rfl ?_
    show WP E ad 37 [some (.ref (ad 71)), some (.int n), some (.int (σ.1 71 0)), some (.int z10)] [] (sV (sV (sV σ 71 0 n) 71 8 z8) 71 10 z9)
    exact L3_processes1 l ad E σ hI (σ.1 71 0) rfl n (by omega) C X 100 (sV (sV (sV σ 71 0 n) 71 8 z8) 71 10 z9) z10 (Fr.sV (Fr.sV (Fr.sV Fr.rf (Or.inr (by decide))) (Or.inr (by decide))) (Or.inr (by decide))) rfl (by show Int32.toInt z8 = 0; omega) (by show Int32.toInt z9 = 0; omega) hI.ev (fun j hj => by omega) (fun j hj => by omega) (by omega) (by omega)
  · refine s_bipush C dX10_processes_12 (by decide) (fun z11 tz11 => ?_)
    exact s_iret C X dX10_processes_14 ⟨hI, Fr.rf, Or.inr ⟨by omega, by omega, rfl, rfl⟩, (fun q => by omega), fun _ => rfl⟩
set_option maxRecDepth 100000 in
theorem f_X10_image (l : Launch) (ad : Nat → Nat) (σ : Sg) (hI : IM σ.1) : Mt l yX10_image cX10_image 1 (some .int) 1 ad σ [.ref (ad 71)] (oI (fun r τ => IM τ.1 ∧ Fr [89, 90, 91, 92, 93, 94, 95, 96, 97, 98, 99, 100, 101, 102] [(71, 21), (71, 22), (71, 30), (71, 32)] σ τ ∧ τ.1 71 22 = σ.1 71 0 ∧ τ.1 89 = σ.1 72 ∧ (τ.1 71 21).toInt = 1 ∧ τ.1 101 = σ.1 84)) := by
  have hpr := hI.pr
  have htot := hI.tot
  have hms := hI.ms
  have htp := hI.tp
  refine Mt_intro (by decide +kernel) (by simp [lg_sl, Value.category]) (fun E C X => ?_)
  show WP E ad 0 [some (.ref (ad 71))] [] σ
  refine s_aload_n C dX10_image_0 rfl ?_
  refine s_iconst C dX10_image_1 (by decide) (fun z1 tz1 => ?_)
  refine s_putz (k := 21) C y71 fw_X10_352 fp_9_21 rfl (by omega) dX10_image_2 ?_
  refine s_aload_n C dX10_image_5 rfl ?_
  refine s_aload_n C dX10_image_6 rfl ?_
  refine s_get (k := 0) (x := (σ.1 71 0)) C y71 fw_X10_9 rfl rfl dX10_image_7 ?_
  refine s_put (k := 22) C y71 fw_X10_355 fp_9_22 rfl dX10_image_10 ?_
  refine s_aload_n C dX10_image_13 rfl ?_
  refine s_aload_n C dX10_image_14 rfl ?_
  refine s_get (k := 8) (x := (σ.1 71 8)) C y71 fw_X10_175 rfl rfl dX10_image_15 ?_
  refine s_put (k := 30) C y71 fw_X10_358 fp_9_30 rfl dX10_image_18 ?_
  refine s_aload_n C dX10_image_21 rfl ?_
  refine s_aload_n C dX10_image_22 rfl ?_
  refine s_get (k := 10) (x := (σ.1 71 10)) C y71 fw_X10_178 rfl rfl dX10_image_23 ?_
  refine s_put (k := 32) C y71 fw_X10_361 fp_9_32 rfl dX10_image_26 ?_
  refine s_aload_n C dX10_image_29 rfl ?_
  refine s_getr (k := 1) (j := 72) C y71 fw_X10_15 rfl dX10_image_30 ?_
  refine s_aload_n C dX10_image_33 rfl ?_
  refine s_getr (k := 23) (j := 89) C y71 fw_X10_68 rfl dX10_image_34 ?_
  refine s_callSV (st := []) C (c_X10_copyRow l ad 72 89 4 0 0 y72 y89 (by decide) (by decide) (sV (sV (sV (sV σ 71 21 z1) 71 22 (σ.1 71 0)) 71 30 (σ.1 71 8)) 71 32 (σ.1 71 10))) cv_X10_364 rfl rfl ⟨by decide, by decide⟩ (Nat.le_of_ble_eq_true rfl) dX10_image_37 ?_
  intro τ3 h4
  replace h4 : τ3 = (sR (sV (sV (sV (sV σ 71 21 z1) 71 22 (σ.1 71 0)) 71 30 (σ.1 71 8)) 71 32 (σ.1 71 10)) 89 (σ.1 72)) := h4; replace h4 := h4.symm; subst h4
  refine s_aload_n C dX10_image_40 rfl ?_
  refine s_getr (k := 2) (j := 73) C y71 fw_X10_19 rfl dX10_image_41 ?_
  refine s_aload_n C dX10_image_44 rfl ?_
  refine s_getr (k := 24) (j := 90) C y71 fw_X10_71 rfl dX10_image_45 ?_
  refine s_callSV (st := []) C (c_X10_copyRow l ad 73 90 4 0 0 y73 y90 (by decide) (by decide) (sR (sV (sV (sV (sV σ 71 21 z1) 71 22 (σ.1 71 0)) 71 30 (σ.1 71 8)) 71 32 (σ.1 71 10)) 89 (σ.1 72))) cv_X10_364 rfl rfl ⟨by decide, by decide⟩ (Nat.le_of_ble_eq_true rfl) dX10_image_48 ?_
  intro τ6 h7
  replace h7 : τ6 = (sR (sR (sV (sV (sV (sV σ 71 21 z1) 71 22 (σ.1 71 0)) 71 30 (σ.1 71 8)) 71 32 (σ.1 71 10)) 89 (σ.1 72)) 90 (σ.1 73)) := h7; replace h7 := h7.symm; subst h7
  refine s_aload_n C dX10_image_51 rfl ?_
  refine s_getr (k := 3) (j := 74) C y71 fw_X10_22 rfl dX10_image_52 ?_
  refine s_aload_n C dX10_image_55 rfl ?_
  refine s_getr (k := 25) (j := 91) C y71 fw_X10_74 rfl dX10_image_56 ?_
  refine s_callSV (st := []) C (c_X10_copyRow l ad 74 91 20 0 0 y74 y91 (by decide) (by decide) (sR (sR (sV (sV (sV (sV σ 71 21 z1) 71 22 (σ.1 71 0)) 71 30 (σ.1 71 8)) 71 32 (σ.1 71 10)) 89 (σ.1 72)) 90 (σ.1 73))) cv_X10_364 rfl rfl ⟨by decide, by decide⟩ (Nat.le_of_ble_eq_true rfl) dX10_image_59 ?_
  intro τ9 h10
  replace h10 : τ9 = (sR (sR (sR (sV (sV (sV (sV σ 71 21 z1) 71 22 (σ.1 71 0)) 71 30 (σ.1 71 8)) 71 32 (σ.1 71 10)) 89 (σ.1 72)) 90 (σ.1 73)) 91 (σ.1 74)) := h10; replace h10 := h10.symm; subst h10
  refine s_aload_n C dX10_image_62 rfl ?_
  refine s_getr (k := 4) (j := 75) C y71 fw_X10_25 rfl dX10_image_63 ?_
  refine s_aload_n C dX10_image_66 rfl ?_
  refine s_getr (k := 26) (j := 92) C y71 fw_X10_77 rfl dX10_image_67 ?_
  refine s_callSV (st := []) C (c_X10_copyRow l ad 75 92 20 0 0 y75 y92 (by decide) (by decide) (sR (sR (sR (sV (sV (sV (sV σ 71 21 z1) 71 22 (σ.1 71 0)) 71 30 (σ.1 71 8)) 71 32 (σ.1 71 10)) 89 (σ.1 72)) 90 (σ.1 73)) 91 (σ.1 74))) cv_X10_364 rfl rfl ⟨by decide, by decide⟩ (Nat.le_of_ble_eq_true rfl) dX10_image_70 ?_
  intro τ12 h13
  replace h13 : τ12 = (sR (sR (sR (sR (sV (sV (sV (sV σ 71 21 z1) 71 22 (σ.1 71 0)) 71 30 (σ.1 71 8)) 71 32 (σ.1 71 10)) 89 (σ.1 72)) 90 (σ.1 73)) 91 (σ.1 74)) 92 (σ.1 75)) := h13; replace h13 := h13.symm; subst h13
  refine s_aload_n C dX10_image_73 rfl ?_
  refine s_getr (k := 5) (j := 76) C y71 fw_X10_28 rfl dX10_image_74 ?_
  refine s_aload_n C dX10_image_77 rfl ?_
  refine s_getr (k := 27) (j := 93) C y71 fw_X10_80 rfl dX10_image_78 ?_
  refine s_callSV (st := []) C (c_X10_copyRow l ad 76 93 20 0 0 y76 y93 (by decide) (by decide) (sR (sR (sR (sR (sV (sV (sV (sV σ 71 21 z1) 71 22 (σ.1 71 0)) 71 30 (σ.1 71 8)) 71 32 (σ.1 71 10)) 89 (σ.1 72)) 90 (σ.1 73)) 91 (σ.1 74)) 92 (σ.1 75))) cv_X10_364 rfl rfl ⟨by decide, by decide⟩ (Nat.le_of_ble_eq_true rfl) dX10_image_81 ?_
  intro τ15 h16
  replace h16 : τ15 = (sR (sR (sR (sR (sR (sV (sV (sV (sV σ 71 21 z1) 71 22 (σ.1 71 0)) 71 30 (σ.1 71 8)) 71 32 (σ.1 71 10)) 89 (σ.1 72)) 90 (σ.1 73)) 91 (σ.1 74)) 92 (σ.1 75)) 93 (σ.1 76)) := h16; replace h16 := h16.symm; subst h16
  refine s_aload_n C dX10_image_84 rfl ?_
  refine s_getr (k := 6) (j := 77) C y71 fw_X10_31 rfl dX10_image_85 ?_
  refine s_aload_n C dX10_image_88 rfl ?_
  refine s_getr (k := 28) (j := 94) C y71 fw_X10_83 rfl dX10_image_89 ?_
  refine s_callSV (st := []) C (c_X10_copyRow l ad 77 94 20 0 0 y77 y94 (by decide) (by decide) (sR (sR (sR (sR (sR (sV (sV (sV (sV σ 71 21 z1) 71 22 (σ.1 71 0)) 71 30 (σ.1 71 8)) 71 32 (σ.1 71 10)) 89 (σ.1 72)) 90 (σ.1 73)) 91 (σ.1 74)) 92 (σ.1 75)) 93 (σ.1 76))) cv_X10_364 rfl rfl ⟨by decide, by decide⟩ (Nat.le_of_ble_eq_true rfl) dX10_image_92 ?_
  intro τ18 h19
  replace h19 : τ18 = (sR (sR (sR (sR (sR (sR (sV (sV (sV (sV σ 71 21 z1) 71 22 (σ.1 71 0)) 71 30 (σ.1 71 8)) 71 32 (σ.1 71 10)) 89 (σ.1 72)) 90 (σ.1 73)) 91 (σ.1 74)) 92 (σ.1 75)) 93 (σ.1 76)) 94 (σ.1 77)) := h19; replace h19 := h19.symm; subst h19
  refine s_aload_n C dX10_image_95 rfl ?_
  refine s_getr (k := 7) (j := 78) C y71 fw_X10_34 rfl dX10_image_96 ?_
  refine s_aload_n C dX10_image_99 rfl ?_
  refine s_getr (k := 29) (j := 95) C y71 fw_X10_86 rfl dX10_image_100 ?_
  refine s_callSV (st := []) C (c_X10_copyRow l ad 78 95 80 0 0 y78 y95 (by decide) (by decide) (sR (sR (sR (sR (sR (sR (sV (sV (sV (sV σ 71 21 z1) 71 22 (σ.1 71 0)) 71 30 (σ.1 71 8)) 71 32 (σ.1 71 10)) 89 (σ.1 72)) 90 (σ.1 73)) 91 (σ.1 74)) 92 (σ.1 75)) 93 (σ.1 76)) 94 (σ.1 77))) cv_X10_364 rfl rfl ⟨by decide, by decide⟩ (Nat.le_of_ble_eq_true rfl) dX10_image_103 ?_
  intro τ21 h22
  replace h22 : τ21 = (sR (sR (sR (sR (sR (sR (sR (sV (sV (sV (sV σ 71 21 z1) 71 22 (σ.1 71 0)) 71 30 (σ.1 71 8)) 71 32 (σ.1 71 10)) 89 (σ.1 72)) 90 (σ.1 73)) 91 (σ.1 74)) 92 (σ.1 75)) 93 (σ.1 76)) 94 (σ.1 77)) 95 (σ.1 78)) := h22; replace h22 := h22.symm; subst h22
  refine s_aload_n C dX10_image_106 rfl ?_
  refine s_getr (k := 9) (j := 79) C y71 fw_X10_37 rfl dX10_image_107 ?_
  refine s_aload_n C dX10_image_110 rfl ?_
  refine s_getr (k := 31) (j := 96) C y71 fw_X10_89 rfl dX10_image_111 ?_
  refine s_callSV (st := []) C (c_X10_copyRow l ad 79 96 20 0 0 y79 y96 (by decide) (by decide) (sR (sR (sR (sR (sR (sR (sR (sV (sV (sV (sV σ 71 21 z1) 71 22 (σ.1 71 0)) 71 30 (σ.1 71 8)) 71 32 (σ.1 71 10)) 89 (σ.1 72)) 90 (σ.1 73)) 91 (σ.1 74)) 92 (σ.1 75)) 93 (σ.1 76)) 94 (σ.1 77)) 95 (σ.1 78))) cv_X10_364 rfl rfl ⟨by decide, by decide⟩ (Nat.le_of_ble_eq_true rfl) dX10_image_114 ?_
  intro τ24 h25
  replace h25 : τ24 = (sR (sR (sR (sR (sR (sR (sR (sR (sV (sV (sV (sV σ 71 21 z1) 71 22 (σ.1 71 0)) 71 30 (σ.1 71 8)) 71 32 (σ.1 71 10)) 89 (σ.1 72)) 90 (σ.1 73)) 91 (σ.1 74)) 92 (σ.1 75)) 93 (σ.1 76)) 94 (σ.1 77)) 95 (σ.1 78)) 96 (σ.1 79)) := h25; replace h25 := h25.symm; subst h25
  refine s_aload_n C dX10_image_117 rfl ?_
  refine s_getr (k := 11) (j := 80) C y71 fw_X10_40 rfl dX10_image_118 ?_
  refine s_aload_n C dX10_image_121 rfl ?_
  refine s_getr (k := 33) (j := 97) C y71 fw_X10_92 rfl dX10_image_122 ?_
  refine s_callSV (st := []) C (c_X10_copyRow l ad 80 97 8 0 0 y80 y97 (by decide) (by decide) (sR (sR (sR (sR (sR (sR (sR (sR (sV (sV (sV (sV σ 71 21 z1) 71 22 (σ.1 71 0)) 71 30 (σ.1 71 8)) 71 32 (σ.1 71 10)) 89 (σ.1 72)) 90 (σ.1 73)) 91 (σ.1 74)) 92 (σ.1 75)) 93 (σ.1 76)) 94 (σ.1 77)) 95 (σ.1 78)) 96 (σ.1 79))) cv_X10_364 rfl rfl ⟨by decide, by decide⟩ (Nat.le_of_ble_eq_true rfl) dX10_image_125 ?_
  intro τ27 h28
  replace h28 : τ27 = (sR (sR (sR (sR (sR (sR (sR (sR (sR (sV (sV (sV (sV σ 71 21 z1) 71 22 (σ.1 71 0)) 71 30 (σ.1 71 8)) 71 32 (σ.1 71 10)) 89 (σ.1 72)) 90 (σ.1 73)) 91 (σ.1 74)) 92 (σ.1 75)) 93 (σ.1 76)) 94 (σ.1 77)) 95 (σ.1 78)) 96 (σ.1 79)) 97 (σ.1 80)) := h28; replace h28 := h28.symm; subst h28
  refine s_aload_n C dX10_image_128 rfl ?_
  refine s_getr (k := 12) (j := 81) C y71 fw_X10_43 rfl dX10_image_129 ?_
  refine s_aload_n C dX10_image_132 rfl ?_
  refine s_getr (k := 34) (j := 98) C y71 fw_X10_95 rfl dX10_image_133 ?_
  refine s_callSV (st := []) C (c_X10_copyRow l ad 81 98 8 0 0 y81 y98 (by decide) (by decide) (sR (sR (sR (sR (sR (sR (sR (sR (sR (sV (sV (sV (sV σ 71 21 z1) 71 22 (σ.1 71 0)) 71 30 (σ.1 71 8)) 71 32 (σ.1 71 10)) 89 (σ.1 72)) 90 (σ.1 73)) 91 (σ.1 74)) 92 (σ.1 75)) 93 (σ.1 76)) 94 (σ.1 77)) 95 (σ.1 78)) 96 (σ.1 79)) 97 (σ.1 80))) cv_X10_364 rfl rfl ⟨by decide, by decide⟩ (Nat.le_of_ble_eq_true rfl) dX10_image_136 ?_
  intro τ30 h31
  replace h31 : τ30 = (sR (sR (sR (sR (sR (sR (sR (sR (sR (sR (sV (sV (sV (sV σ 71 21 z1) 71 22 (σ.1 71 0)) 71 30 (σ.1 71 8)) 71 32 (σ.1 71 10)) 89 (σ.1 72)) 90 (σ.1 73)) 91 (σ.1 74)) 92 (σ.1 75)) 93 (σ.1 76)) 94 (σ.1 77)) 95 (σ.1 78)) 96 (σ.1 79)) 97 (σ.1 80)) 98 (σ.1 81)) := h31; replace h31 := h31.symm; subst h31
  refine s_aload_n C dX10_image_139 rfl ?_
  refine s_getr (k := 13) (j := 82) C y71 fw_X10_46 rfl dX10_image_140 ?_
  refine s_aload_n C dX10_image_143 rfl ?_
  refine s_getr (k := 35) (j := 99) C y71 fw_X10_98 rfl dX10_image_144 ?_
  refine s_callSV (st := []) C (c_X10_copyRow l ad 82 99 8 0 0 y82 y99 (by decide) (by decide) (sR (sR (sR (sR (sR (sR (sR (sR (sR (sR (sV (sV (sV (sV σ 71 21 z1) 71 22 (σ.1 71 0)) 71 30 (σ.1 71 8)) 71 32 (σ.1 71 10)) 89 (σ.1 72)) 90 (σ.1 73)) 91 (σ.1 74)) 92 (σ.1 75)) 93 (σ.1 76)) 94 (σ.1 77)) 95 (σ.1 78)) 96 (σ.1 79)) 97 (σ.1 80)) 98 (σ.1 81))) cv_X10_364 rfl rfl ⟨by decide, by decide⟩ (Nat.le_of_ble_eq_true rfl) dX10_image_147 ?_
  intro τ33 h34
  replace h34 : τ33 = (sR (sR (sR (sR (sR (sR (sR (sR (sR (sR (sR (sV (sV (sV (sV σ 71 21 z1) 71 22 (σ.1 71 0)) 71 30 (σ.1 71 8)) 71 32 (σ.1 71 10)) 89 (σ.1 72)) 90 (σ.1 73)) 91 (σ.1 74)) 92 (σ.1 75)) 93 (σ.1 76)) 94 (σ.1 77)) 95 (σ.1 78)) 96 (σ.1 79)) 97 (σ.1 80)) 98 (σ.1 81)) 99 (σ.1 82)) := h34; replace h34 := h34.symm; subst h34
  refine s_aload_n C dX10_image_150 rfl ?_
  refine s_getr (k := 14) (j := 83) C y71 fw_X10_49 rfl dX10_image_151 ?_
  refine s_aload_n C dX10_image_154 rfl ?_
  refine s_getr (k := 36) (j := 100) C y71 fw_X10_101 rfl dX10_image_155 ?_
  refine s_callSV (st := []) C (c_X10_copyRow l ad 83 100 8 0 0 y83 y100 (by decide) (by decide) (sR (sR (sR (sR (sR (sR (sR (sR (sR (sR (sR (sV (sV (sV (sV σ 71 21 z1) 71 22 (σ.1 71 0)) 71 30 (σ.1 71 8)) 71 32 (σ.1 71 10)) 89 (σ.1 72)) 90 (σ.1 73)) 91 (σ.1 74)) 92 (σ.1 75)) 93 (σ.1 76)) 94 (σ.1 77)) 95 (σ.1 78)) 96 (σ.1 79)) 97 (σ.1 80)) 98 (σ.1 81)) 99 (σ.1 82))) cv_X10_364 rfl rfl ⟨by decide, by decide⟩ (Nat.le_of_ble_eq_true rfl) dX10_image_158 ?_
  intro τ36 h37
  replace h37 : τ36 = (sR (sR (sR (sR (sR (sR (sR (sR (sR (sR (sR (sR (sV (sV (sV (sV σ 71 21 z1) 71 22 (σ.1 71 0)) 71 30 (σ.1 71 8)) 71 32 (σ.1 71 10)) 89 (σ.1 72)) 90 (σ.1 73)) 91 (σ.1 74)) 92 (σ.1 75)) 93 (σ.1 76)) 94 (σ.1 77)) 95 (σ.1 78)) 96 (σ.1 79)) 97 (σ.1 80)) 98 (σ.1 81)) 99 (σ.1 82)) 100 (σ.1 83)) := h37; replace h37 := h37.symm; subst h37
  refine s_aload_n C dX10_image_161 rfl ?_
  refine s_getr (k := 15) (j := 84) C y71 fw_X10_52 rfl dX10_image_162 ?_
  refine s_aload_n C dX10_image_165 rfl ?_
  refine s_getr (k := 37) (j := 101) C y71 fw_X10_104 rfl dX10_image_166 ?_
  refine s_callSV (st := []) C (c_X10_copyRow l ad 84 101 3 0 0 y84 y101 (by decide) (by decide) (sR (sR (sR (sR (sR (sR (sR (sR (sR (sR (sR (sR (sV (sV (sV (sV σ 71 21 z1) 71 22 (σ.1 71 0)) 71 30 (σ.1 71 8)) 71 32 (σ.1 71 10)) 89 (σ.1 72)) 90 (σ.1 73)) 91 (σ.1 74)) 92 (σ.1 75)) 93 (σ.1 76)) 94 (σ.1 77)) 95 (σ.1 78)) 96 (σ.1 79)) 97 (σ.1 80)) 98 (σ.1 81)) 99 (σ.1 82)) 100 (σ.1 83))) cv_X10_364 rfl rfl ⟨by decide, by decide⟩ (Nat.le_of_ble_eq_true rfl) dX10_image_169 ?_
  intro τ39 h40
  replace h40 : τ39 = (sR (sR (sR (sR (sR (sR (sR (sR (sR (sR (sR (sR (sR (sV (sV (sV (sV σ 71 21 z1) 71 22 (σ.1 71 0)) 71 30 (σ.1 71 8)) 71 32 (σ.1 71 10)) 89 (σ.1 72)) 90 (σ.1 73)) 91 (σ.1 74)) 92 (σ.1 75)) 93 (σ.1 76)) 94 (σ.1 77)) 95 (σ.1 78)) 96 (σ.1 79)) 97 (σ.1 80)) 98 (σ.1 81)) 99 (σ.1 82)) 100 (σ.1 83)) 101 (σ.1 84)) := h40; replace h40 := h40.symm; subst h40
  refine s_aload_n C dX10_image_172 rfl ?_
  refine s_getr (k := 16) (j := 85) C y71 fw_X10_55 rfl dX10_image_173 ?_
  refine s_aload_n C dX10_image_176 rfl ?_
  refine s_getr (k := 38) (j := 102) C y71 fw_X10_107 rfl dX10_image_177 ?_
  refine s_callSV (st := []) C (c_X10_copyRow l ad 85 102 180 0 0 y85 y102 (by decide) (by decide) (sR (sR (sR (sR (sR (sR (sR (sR (sR (sR (sR (sR (sR (sV (sV (sV (sV σ 71 21 z1) 71 22 (σ.1 71 0)) 71 30 (σ.1 71 8)) 71 32 (σ.1 71 10)) 89 (σ.1 72)) 90 (σ.1 73)) 91 (σ.1 74)) 92 (σ.1 75)) 93 (σ.1 76)) 94 (σ.1 77)) 95 (σ.1 78)) 96 (σ.1 79)) 97 (σ.1 80)) 98 (σ.1 81)) 99 (σ.1 82)) 100 (σ.1 83)) 101 (σ.1 84))) cv_X10_364 rfl rfl ⟨by decide, by decide⟩ (Nat.le_of_ble_eq_true rfl) dX10_image_180 ?_
  intro τ42 h43
  replace h43 : τ42 = (sR (sR (sR (sR (sR (sR (sR (sR (sR (sR (sR (sR (sR (sR (sV (sV (sV (sV σ 71 21 z1) 71 22 (σ.1 71 0)) 71 30 (σ.1 71 8)) 71 32 (σ.1 71 10)) 89 (σ.1 72)) 90 (σ.1 73)) 91 (σ.1 74)) 92 (σ.1 75)) 93 (σ.1 76)) 94 (σ.1 77)) 95 (σ.1 78)) 96 (σ.1 79)) 97 (σ.1 80)) 98 (σ.1 81)) 99 (σ.1 82)) 100 (σ.1 83)) 101 (σ.1 84)) 102 (σ.1 85)) := h43; replace h43 := h43.symm; subst h43
  refine s_aload_n C dX10_image_183 rfl ?_
  refine s_get (k := 8) (x := (σ.1 71 8)) C y71 fw_X10_175 rfl rfl dX10_image_184 ?_
  exact s_iret C X dX10_image_187 ⟨⟨hI.1, hI.2.1, hI.2.2.1, hI.2.2.2.1, hI.2.2.2.2.1, hI.2.2.2.2.2.1, fun _ => ⟨hI.1, hI.2.1, hI.2.2.2.2.1⟩⟩, (Fr.sR (Fr.sR (Fr.sR (Fr.sR (Fr.sR (Fr.sR (Fr.sR (Fr.sR (Fr.sR (Fr.sR (Fr.sR (Fr.sR (Fr.sR (Fr.sR (Fr.sV (Fr.sV (Fr.sV (Fr.sV Fr.rf (Or.inr (by decide))) (Or.inr (by decide))) (Or.inr (by decide))) (Or.inr (by decide))) (by decide)) (by decide)) (by decide)) (by decide)) (by decide)) (by decide)) (by decide)) (by decide)) (by decide)) (by decide)) (by decide)) (by decide)) (by decide)) (by decide)), rfl, rfl, (by show Int32.toInt z1 = 1; omega), rfl⟩
set_option maxRecDepth 100000 in
theorem f_X10_undo (l : Launch) (ad : Nat → Nat) (σ : Sg) (hI : IM σ.1) : Mt l yX10_undo cX10_undo 1 (some .int) 1 ad σ [.ref (ad 71)] (oI (fun r τ => IM τ.1 ∧ Fr [72, 73, 74, 75, 76, 77, 78, 79, 80, 81, 82, 83, 84, 85] [(71, 0), (71, 8), (71, 10), (71, 39)] σ τ ∧ (((σ.1 71 21).toInt = 0 ∧ τ.1 71 0 = σ.1 71 0 ∧ τ.1 72 = σ.1 72) ∨ (¬ (σ.1 71 21).toInt = 0 ∧ τ.1 71 0 = σ.1 71 22 ∧ τ.1 72 = σ.1 89)) ∧ ((σ.1 71 21).toInt = 0 → τ.1 84 = σ.1 84) ∧ (¬ (σ.1 71 21).toInt = 0 → τ.1 84 = σ.1 101))) := by
  have hpr := hI.pr
  have htot := hI.tot
  have hms := hI.ms
  have htp := hI.tp
  refine Mt_intro (by decide +kernel) (by simp [lg_sl, Value.category]) (fun E C X => ?_)
  show WP E ad 0 [some (.ref (ad 71))] [] σ
  refine s_aload_n C dX10_undo_0 rfl ?_
  refine s_get (k := 21) (x := (σ.1 71 21)) C y71 fw_X10_352 rfl rfl dX10_undo_1 ?_
  refine s_if_ne (tgt := 10) C dX10_undo_4 (by decide) (fun q1 => ?_) (fun q1 => ?_)
  · refine s_aload_n C dX10_undo_10 rfl ?_
    refine s_aload_n C dX10_undo_11 rfl ?_
    refine s_get (k := 22) (x := (σ.1 71 22)) C y71 fw_X10_355 rfl rfl dX10_undo_12 ?_
    refine s_put (k := 0) C y71 fw_X10_9 fp_9_0 rfl dX10_undo_15 ?_
    refine s_aload_n C dX10_undo_18 rfl ?_
    refine s_aload_n C dX10_undo_19 rfl ?_
    refine s_get (k := 30) (x := (σ.1 71 30)) C y71 fw_X10_358 rfl rfl dX10_undo_20 ?_
    refine s_put (k := 8) C y71 fw_X10_175 fp_9_8 rfl dX10_undo_23 ?_
    refine s_aload_n C dX10_undo_26 rfl ?_
    refine s_aload_n C dX10_undo_27 rfl ?_
    refine s_get (k := 32) (x := (σ.1 71 32)) C y71 fw_X10_361 rfl rfl dX10_undo_28 ?_
    refine s_put (k := 10) C y71 fw_X10_178 fp_9_10 rfl dX10_undo_31 ?_
    refine s_aload_n C dX10_undo_34 rfl ?_
    refine s_getr (k := 23) (j := 89) C y71 fw_X10_68 rfl dX10_undo_35 ?_
    refine s_aload_n C dX10_undo_38 rfl ?_
    refine s_getr (k := 1) (j := 72) C y71 fw_X10_15 rfl dX10_undo_39 ?_
    refine s_callSV (st := []) C (c_X10_copyRow l ad 89 72 4 0 0 y89 y72 (by decide) (by decide) (sV (sV (sV σ 71 0 (σ.1 71 22)) 71 8 (σ.1 71 30)) 71 10 (σ.1 71 32))) cv_X10_364 rfl rfl ⟨by decide, by decide⟩ (Nat.le_of_ble_eq_true rfl) dX10_undo_42 ?_
    intro τ3 h4
    replace h4 : τ3 = (sR (sV (sV (sV σ 71 0 (σ.1 71 22)) 71 8 (σ.1 71 30)) 71 10 (σ.1 71 32)) 72 (σ.1 89)) := h4; replace h4 := h4.symm; subst h4
    refine s_aload_n C dX10_undo_45 rfl ?_
    refine s_getr (k := 24) (j := 90) C y71 fw_X10_71 rfl dX10_undo_46 ?_
    refine s_aload_n C dX10_undo_49 rfl ?_
    refine s_getr (k := 2) (j := 73) C y71 fw_X10_19 rfl dX10_undo_50 ?_
    refine s_callSV (st := []) C (c_X10_copyRow l ad 90 73 4 0 0 y90 y73 (by decide) (by decide) (sR (sV (sV (sV σ 71 0 (σ.1 71 22)) 71 8 (σ.1 71 30)) 71 10 (σ.1 71 32)) 72 (σ.1 89))) cv_X10_364 rfl rfl ⟨by decide, by decide⟩ (Nat.le_of_ble_eq_true rfl) dX10_undo_53 ?_
    intro τ6 h7
    replace h7 : τ6 = (sR (sR (sV (sV (sV σ 71 0 (σ.1 71 22)) 71 8 (σ.1 71 30)) 71 10 (σ.1 71 32)) 72 (σ.1 89)) 73 (σ.1 90)) := h7; replace h7 := h7.symm; subst h7
    refine s_aload_n C dX10_undo_56 rfl ?_
    refine s_getr (k := 25) (j := 91) C y71 fw_X10_74 rfl dX10_undo_57 ?_
    refine s_aload_n C dX10_undo_60 rfl ?_
    refine s_getr (k := 3) (j := 74) C y71 fw_X10_22 rfl dX10_undo_61 ?_
    refine s_callSV (st := []) C (c_X10_copyRow l ad 91 74 20 0 0 y91 y74 (by decide) (by decide) (sR (sR (sV (sV (sV σ 71 0 (σ.1 71 22)) 71 8 (σ.1 71 30)) 71 10 (σ.1 71 32)) 72 (σ.1 89)) 73 (σ.1 90))) cv_X10_364 rfl rfl ⟨by decide, by decide⟩ (Nat.le_of_ble_eq_true rfl) dX10_undo_64 ?_
    intro τ9 h10
    replace h10 : τ9 = (sR (sR (sR (sV (sV (sV σ 71 0 (σ.1 71 22)) 71 8 (σ.1 71 30)) 71 10 (σ.1 71 32)) 72 (σ.1 89)) 73 (σ.1 90)) 74 (σ.1 91)) := h10; replace h10 := h10.symm; subst h10
    refine s_aload_n C dX10_undo_67 rfl ?_
    refine s_getr (k := 26) (j := 92) C y71 fw_X10_77 rfl dX10_undo_68 ?_
    refine s_aload_n C dX10_undo_71 rfl ?_
    refine s_getr (k := 4) (j := 75) C y71 fw_X10_25 rfl dX10_undo_72 ?_
    refine s_callSV (st := []) C (c_X10_copyRow l ad 92 75 20 0 0 y92 y75 (by decide) (by decide) (sR (sR (sR (sV (sV (sV σ 71 0 (σ.1 71 22)) 71 8 (σ.1 71 30)) 71 10 (σ.1 71 32)) 72 (σ.1 89)) 73 (σ.1 90)) 74 (σ.1 91))) cv_X10_364 rfl rfl ⟨by decide, by decide⟩ (Nat.le_of_ble_eq_true rfl) dX10_undo_75 ?_
    intro τ12 h13
    replace h13 : τ12 = (sR (sR (sR (sR (sV (sV (sV σ 71 0 (σ.1 71 22)) 71 8 (σ.1 71 30)) 71 10 (σ.1 71 32)) 72 (σ.1 89)) 73 (σ.1 90)) 74 (σ.1 91)) 75 (σ.1 92)) := h13; replace h13 := h13.symm; subst h13
    refine s_aload_n C dX10_undo_78 rfl ?_
    refine s_getr (k := 27) (j := 93) C y71 fw_X10_80 rfl dX10_undo_79 ?_
    refine s_aload_n C dX10_undo_82 rfl ?_
    refine s_getr (k := 5) (j := 76) C y71 fw_X10_28 rfl dX10_undo_83 ?_
    refine s_callSV (st := []) C (c_X10_copyRow l ad 93 76 20 0 0 y93 y76 (by decide) (by decide) (sR (sR (sR (sR (sV (sV (sV σ 71 0 (σ.1 71 22)) 71 8 (σ.1 71 30)) 71 10 (σ.1 71 32)) 72 (σ.1 89)) 73 (σ.1 90)) 74 (σ.1 91)) 75 (σ.1 92))) cv_X10_364 rfl rfl ⟨by decide, by decide⟩ (Nat.le_of_ble_eq_true rfl) dX10_undo_86 ?_
    intro τ15 h16
    replace h16 : τ15 = (sR (sR (sR (sR (sR (sV (sV (sV σ 71 0 (σ.1 71 22)) 71 8 (σ.1 71 30)) 71 10 (σ.1 71 32)) 72 (σ.1 89)) 73 (σ.1 90)) 74 (σ.1 91)) 75 (σ.1 92)) 76 (σ.1 93)) := h16; replace h16 := h16.symm; subst h16
    refine s_aload_n C dX10_undo_89 rfl ?_
    refine s_getr (k := 28) (j := 94) C y71 fw_X10_83 rfl dX10_undo_90 ?_
    refine s_aload_n C dX10_undo_93 rfl ?_
    refine s_getr (k := 6) (j := 77) C y71 fw_X10_31 rfl dX10_undo_94 ?_
    refine s_callSV (st := []) C (c_X10_copyRow l ad 94 77 20 0 0 y94 y77 (by decide) (by decide) (sR (sR (sR (sR (sR (sV (sV (sV σ 71 0 (σ.1 71 22)) 71 8 (σ.1 71 30)) 71 10 (σ.1 71 32)) 72 (σ.1 89)) 73 (σ.1 90)) 74 (σ.1 91)) 75 (σ.1 92)) 76 (σ.1 93))) cv_X10_364 rfl rfl ⟨by decide, by decide⟩ (Nat.le_of_ble_eq_true rfl) dX10_undo_97 ?_
    intro τ18 h19
    replace h19 : τ18 = (sR (sR (sR (sR (sR (sR (sV (sV (sV σ 71 0 (σ.1 71 22)) 71 8 (σ.1 71 30)) 71 10 (σ.1 71 32)) 72 (σ.1 89)) 73 (σ.1 90)) 74 (σ.1 91)) 75 (σ.1 92)) 76 (σ.1 93)) 77 (σ.1 94)) := h19; replace h19 := h19.symm; subst h19
    refine s_aload_n C dX10_undo_100 rfl ?_
    refine s_getr (k := 29) (j := 95) C y71 fw_X10_86 rfl dX10_undo_101 ?_
    refine s_aload_n C dX10_undo_104 rfl ?_
    refine s_getr (k := 7) (j := 78) C y71 fw_X10_34 rfl dX10_undo_105 ?_
    refine s_callSV (st := []) C (c_X10_copyRow l ad 95 78 80 0 0 y95 y78 (by decide) (by decide) (sR (sR (sR (sR (sR (sR (sV (sV (sV σ 71 0 (σ.1 71 22)) 71 8 (σ.1 71 30)) 71 10 (σ.1 71 32)) 72 (σ.1 89)) 73 (σ.1 90)) 74 (σ.1 91)) 75 (σ.1 92)) 76 (σ.1 93)) 77 (σ.1 94))) cv_X10_364 rfl rfl ⟨by decide, by decide⟩ (Nat.le_of_ble_eq_true rfl) dX10_undo_108 ?_
    intro τ21 h22
    replace h22 : τ21 = (sR (sR (sR (sR (sR (sR (sR (sV (sV (sV σ 71 0 (σ.1 71 22)) 71 8 (σ.1 71 30)) 71 10 (σ.1 71 32)) 72 (σ.1 89)) 73 (σ.1 90)) 74 (σ.1 91)) 75 (σ.1 92)) 76 (σ.1 93)) 77 (σ.1 94)) 78 (σ.1 95)) := h22; replace h22 := h22.symm; subst h22
    refine s_aload_n C dX10_undo_111 rfl ?_
    refine s_getr (k := 31) (j := 96) C y71 fw_X10_89 rfl dX10_undo_112 ?_
    refine s_aload_n C dX10_undo_115 rfl ?_
    refine s_getr (k := 9) (j := 79) C y71 fw_X10_37 rfl dX10_undo_116 ?_
    refine s_callSV (st := []) C (c_X10_copyRow l ad 96 79 20 0 0 y96 y79 (by decide) (by decide) (sR (sR (sR (sR (sR (sR (sR (sV (sV (sV σ 71 0 (σ.1 71 22)) 71 8 (σ.1 71 30)) 71 10 (σ.1 71 32)) 72 (σ.1 89)) 73 (σ.1 90)) 74 (σ.1 91)) 75 (σ.1 92)) 76 (σ.1 93)) 77 (σ.1 94)) 78 (σ.1 95))) cv_X10_364 rfl rfl ⟨by decide, by decide⟩ (Nat.le_of_ble_eq_true rfl) dX10_undo_119 ?_
    intro τ24 h25
    replace h25 : τ24 = (sR (sR (sR (sR (sR (sR (sR (sR (sV (sV (sV σ 71 0 (σ.1 71 22)) 71 8 (σ.1 71 30)) 71 10 (σ.1 71 32)) 72 (σ.1 89)) 73 (σ.1 90)) 74 (σ.1 91)) 75 (σ.1 92)) 76 (σ.1 93)) 77 (σ.1 94)) 78 (σ.1 95)) 79 (σ.1 96)) := h25; replace h25 := h25.symm; subst h25
    refine s_aload_n C dX10_undo_122 rfl ?_
    refine s_getr (k := 33) (j := 97) C y71 fw_X10_92 rfl dX10_undo_123 ?_
    refine s_aload_n C dX10_undo_126 rfl ?_
    refine s_getr (k := 11) (j := 80) C y71 fw_X10_40 rfl dX10_undo_127 ?_
    refine s_callSV (st := []) C (c_X10_copyRow l ad 97 80 8 0 0 y97 y80 (by decide) (by decide) (sR (sR (sR (sR (sR (sR (sR (sR (sV (sV (sV σ 71 0 (σ.1 71 22)) 71 8 (σ.1 71 30)) 71 10 (σ.1 71 32)) 72 (σ.1 89)) 73 (σ.1 90)) 74 (σ.1 91)) 75 (σ.1 92)) 76 (σ.1 93)) 77 (σ.1 94)) 78 (σ.1 95)) 79 (σ.1 96))) cv_X10_364 rfl rfl ⟨by decide, by decide⟩ (Nat.le_of_ble_eq_true rfl) dX10_undo_130 ?_
    intro τ27 h28
    replace h28 : τ27 = (sR (sR (sR (sR (sR (sR (sR (sR (sR (sV (sV (sV σ 71 0 (σ.1 71 22)) 71 8 (σ.1 71 30)) 71 10 (σ.1 71 32)) 72 (σ.1 89)) 73 (σ.1 90)) 74 (σ.1 91)) 75 (σ.1 92)) 76 (σ.1 93)) 77 (σ.1 94)) 78 (σ.1 95)) 79 (σ.1 96)) 80 (σ.1 97)) := h28; replace h28 := h28.symm; subst h28
    refine s_aload_n C dX10_undo_133 rfl ?_
    refine s_getr (k := 34) (j := 98) C y71 fw_X10_95 rfl dX10_undo_134 ?_
    refine s_aload_n C dX10_undo_137 rfl ?_
    refine s_getr (k := 12) (j := 81) C y71 fw_X10_43 rfl dX10_undo_138 ?_
    refine s_callSV (st := []) C (c_X10_copyRow l ad 98 81 8 0 0 y98 y81 (by decide) (by decide) (sR (sR (sR (sR (sR (sR (sR (sR (sR (sV (sV (sV σ 71 0 (σ.1 71 22)) 71 8 (σ.1 71 30)) 71 10 (σ.1 71 32)) 72 (σ.1 89)) 73 (σ.1 90)) 74 (σ.1 91)) 75 (σ.1 92)) 76 (σ.1 93)) 77 (σ.1 94)) 78 (σ.1 95)) 79 (σ.1 96)) 80 (σ.1 97))) cv_X10_364 rfl rfl ⟨by decide, by decide⟩ (Nat.le_of_ble_eq_true rfl) dX10_undo_141 ?_
    intro τ30 h31
    replace h31 : τ30 = (sR (sR (sR (sR (sR (sR (sR (sR (sR (sR (sV (sV (sV σ 71 0 (σ.1 71 22)) 71 8 (σ.1 71 30)) 71 10 (σ.1 71 32)) 72 (σ.1 89)) 73 (σ.1 90)) 74 (σ.1 91)) 75 (σ.1 92)) 76 (σ.1 93)) 77 (σ.1 94)) 78 (σ.1 95)) 79 (σ.1 96)) 80 (σ.1 97)) 81 (σ.1 98)) := h31; replace h31 := h31.symm; subst h31
    refine s_aload_n C dX10_undo_144 rfl ?_
    refine s_getr (k := 35) (j := 99) C y71 fw_X10_98 rfl dX10_undo_145 ?_
    refine s_aload_n C dX10_undo_148 rfl ?_
    refine s_getr (k := 13) (j := 82) C y71 fw_X10_46 rfl dX10_undo_149 ?_
    refine s_callSV (st := []) C (c_X10_copyRow l ad 99 82 8 0 0 y99 y82 (by decide) (by decide) (sR (sR (sR (sR (sR (sR (sR (sR (sR (sR (sV (sV (sV σ 71 0 (σ.1 71 22)) 71 8 (σ.1 71 30)) 71 10 (σ.1 71 32)) 72 (σ.1 89)) 73 (σ.1 90)) 74 (σ.1 91)) 75 (σ.1 92)) 76 (σ.1 93)) 77 (σ.1 94)) 78 (σ.1 95)) 79 (σ.1 96)) 80 (σ.1 97)) 81 (σ.1 98))) cv_X10_364 rfl rfl ⟨by decide, by decide⟩ (Nat.le_of_ble_eq_true rfl) dX10_undo_152 ?_
    intro τ33 h34
    replace h34 : τ33 = (sR (sR (sR (sR (sR (sR (sR (sR (sR (sR (sR (sV (sV (sV σ 71 0 (σ.1 71 22)) 71 8 (σ.1 71 30)) 71 10 (σ.1 71 32)) 72 (σ.1 89)) 73 (σ.1 90)) 74 (σ.1 91)) 75 (σ.1 92)) 76 (σ.1 93)) 77 (σ.1 94)) 78 (σ.1 95)) 79 (σ.1 96)) 80 (σ.1 97)) 81 (σ.1 98)) 82 (σ.1 99)) := h34; replace h34 := h34.symm; subst h34
    refine s_aload_n C dX10_undo_155 rfl ?_
    refine s_getr (k := 36) (j := 100) C y71 fw_X10_101 rfl dX10_undo_156 ?_
    refine s_aload_n C dX10_undo_159 rfl ?_
    refine s_getr (k := 14) (j := 83) C y71 fw_X10_49 rfl dX10_undo_160 ?_
    refine s_callSV (st := []) C (c_X10_copyRow l ad 100 83 8 0 0 y100 y83 (by decide) (by decide) (sR (sR (sR (sR (sR (sR (sR (sR (sR (sR (sR (sV (sV (sV σ 71 0 (σ.1 71 22)) 71 8 (σ.1 71 30)) 71 10 (σ.1 71 32)) 72 (σ.1 89)) 73 (σ.1 90)) 74 (σ.1 91)) 75 (σ.1 92)) 76 (σ.1 93)) 77 (σ.1 94)) 78 (σ.1 95)) 79 (σ.1 96)) 80 (σ.1 97)) 81 (σ.1 98)) 82 (σ.1 99))) cv_X10_364 rfl rfl ⟨by decide, by decide⟩ (Nat.le_of_ble_eq_true rfl) dX10_undo_163 ?_
    intro τ36 h37
    replace h37 : τ36 = (sR (sR (sR (sR (sR (sR (sR (sR (sR (sR (sR (sR (sV (sV (sV σ 71 0 (σ.1 71 22)) 71 8 (σ.1 71 30)) 71 10 (σ.1 71 32)) 72 (σ.1 89)) 73 (σ.1 90)) 74 (σ.1 91)) 75 (σ.1 92)) 76 (σ.1 93)) 77 (σ.1 94)) 78 (σ.1 95)) 79 (σ.1 96)) 80 (σ.1 97)) 81 (σ.1 98)) 82 (σ.1 99)) 83 (σ.1 100)) := h37; replace h37 := h37.symm; subst h37
    refine s_aload_n C dX10_undo_166 rfl ?_
    refine s_getr (k := 37) (j := 101) C y71 fw_X10_104 rfl dX10_undo_167 ?_
    refine s_aload_n C dX10_undo_170 rfl ?_
    refine s_getr (k := 15) (j := 84) C y71 fw_X10_52 rfl dX10_undo_171 ?_
    refine s_callSV (st := []) C (c_X10_copyRow l ad 101 84 3 0 0 y101 y84 (by decide) (by decide) (sR (sR (sR (sR (sR (sR (sR (sR (sR (sR (sR (sR (sV (sV (sV σ 71 0 (σ.1 71 22)) 71 8 (σ.1 71 30)) 71 10 (σ.1 71 32)) 72 (σ.1 89)) 73 (σ.1 90)) 74 (σ.1 91)) 75 (σ.1 92)) 76 (σ.1 93)) 77 (σ.1 94)) 78 (σ.1 95)) 79 (σ.1 96)) 80 (σ.1 97)) 81 (σ.1 98)) 82 (σ.1 99)) 83 (σ.1 100))) cv_X10_364 rfl rfl ⟨by decide, by decide⟩ (Nat.le_of_ble_eq_true rfl) dX10_undo_174 ?_
    intro τ39 h40
    replace h40 : τ39 = (sR (sR (sR (sR (sR (sR (sR (sR (sR (sR (sR (sR (sR (sV (sV (sV σ 71 0 (σ.1 71 22)) 71 8 (σ.1 71 30)) 71 10 (σ.1 71 32)) 72 (σ.1 89)) 73 (σ.1 90)) 74 (σ.1 91)) 75 (σ.1 92)) 76 (σ.1 93)) 77 (σ.1 94)) 78 (σ.1 95)) 79 (σ.1 96)) 80 (σ.1 97)) 81 (σ.1 98)) 82 (σ.1 99)) 83 (σ.1 100)) 84 (σ.1 101)) := h40; replace h40 := h40.symm; subst h40
    refine s_aload_n C dX10_undo_177 rfl ?_
    refine s_getr (k := 38) (j := 102) C y71 fw_X10_107 rfl dX10_undo_178 ?_
    refine s_aload_n C dX10_undo_181 rfl ?_
    refine s_getr (k := 16) (j := 85) C y71 fw_X10_55 rfl dX10_undo_182 ?_
    refine s_callSV (st := []) C (c_X10_copyRow l ad 102 85 180 0 0 y102 y85 (by decide) (by decide) (sR (sR (sR (sR (sR (sR (sR (sR (sR (sR (sR (sR (sR (sV (sV (sV σ 71 0 (σ.1 71 22)) 71 8 (σ.1 71 30)) 71 10 (σ.1 71 32)) 72 (σ.1 89)) 73 (σ.1 90)) 74 (σ.1 91)) 75 (σ.1 92)) 76 (σ.1 93)) 77 (σ.1 94)) 78 (σ.1 95)) 79 (σ.1 96)) 80 (σ.1 97)) 81 (σ.1 98)) 82 (σ.1 99)) 83 (σ.1 100)) 84 (σ.1 101))) cv_X10_364 rfl rfl ⟨by decide, by decide⟩ (Nat.le_of_ble_eq_true rfl) dX10_undo_185 ?_
    intro τ42 h43
    replace h43 : τ42 = (sR (sR (sR (sR (sR (sR (sR (sR (sR (sR (sR (sR (sR (sR (sV (sV (sV σ 71 0 (σ.1 71 22)) 71 8 (σ.1 71 30)) 71 10 (σ.1 71 32)) 72 (σ.1 89)) 73 (σ.1 90)) 74 (σ.1 91)) 75 (σ.1 92)) 76 (σ.1 93)) 77 (σ.1 94)) 78 (σ.1 95)) 79 (σ.1 96)) 80 (σ.1 97)) 81 (σ.1 98)) 82 (σ.1 99)) 83 (σ.1 100)) 84 (σ.1 101)) 85 (σ.1 102)) := h43; replace h43 := h43.symm; subst h43
    refine s_aload_n C dX10_undo_188 rfl ?_
    refine s_iconst C dX10_undo_189 (by decide) (fun z44 tz44 => ?_)
    refine s_putz (k := 39) C y71 fw_X10_181 fp_9_39 rfl (by omega) dX10_undo_190 ?_
    refine s_aload_n C dX10_undo_193 rfl ?_
    refine s_get (k := 8) (x := (σ.1 71 30)) C y71 fw_X10_175 rfl rfl dX10_undo_194 ?_
    exact s_iret C X dX10_undo_197 ⟨(by have hg := hI.2.2.2.2.2.2 (by omega); exact ⟨hg.1, hg.2.1, hI.2.2.1, hI.2.2.2.1, hg.2.2, cu_off hI.2.2.2.2.2.1 (by show Int32.toInt z44 = 0; omega), hI.2.2.2.2.2.2⟩), (Fr.sV (Fr.sR (Fr.sR (Fr.sR (Fr.sR (Fr.sR (Fr.sR (Fr.sR (Fr.sR (Fr.sR (Fr.sR (Fr.sR (Fr.sR (Fr.sR (Fr.sR (Fr.sV (Fr.sV (Fr.sV Fr.rf (Or.inr (by decide))) (Or.inr (by decide))) (Or.inr (by decide))) (by decide)) (by decide)) (by decide)) (by decide)) (by decide)) (by decide)) (by decide)) (by decide)) (by decide)) (by decide)) (by decide)) (by decide)) (by decide)) (by decide)) (Or.inr (by decide))), Or.inr ⟨by omega, rfl, rfl⟩, (fun q => by omega), fun _ => rfl⟩
  · refine s_bipush C dX10_undo_7 (by decide) (fun z45 tz45 => ?_)
    exact s_iret C X dX10_undo_9 ⟨hI, Fr.rf, Or.inl ⟨by omega, rfl, rfl⟩, (fun _ => rfl), fun q => by omega⟩
set_option maxRecDepth 100000 in
theorem L_fread2 (l : Launch) (ad : Nat → Nat) (E : Ev) (σ : Sg) (hI : IM σ.1) (c g n0 : Int32) (hc : 0 ≤ c.toInt ∧ c.toInt ≤ 2) (hn : 0 ≤ n0.toInt ∧ n0.toInt ≤ 60) (hW : WF (σ.1 71 0).toInt (σ.1 86) n0.toInt.toNat) (hA : n0.toInt = rdA (Au (σ.1 71 0).toInt (σ.1 86) (σ.1 71 17).toInt.toNat 0 [] 0) (σ.1 71 17).toInt.toNat) (hn0 : n0 = σ.1 71 17) (hp0 : 0 < n0.toInt) (C : Cx E l (rmk 4) 5 cX10_read RX10) (X : Rx E ad (some .int) (oI (fun r τ => IM τ.1 ∧ Fr [84, 85, 109] [(71, 17), (71, 49)] σ τ ∧ ((0 ≤ c.toInt ∧ c.toInt ≤ 2 → (τ.1 71 17).toInt = 0) ∧ (¬ (0 ≤ c.toInt ∧ c.toInt ≤ 2) → τ.1 71 17 = σ.1 71 17)) ∧ ((0 ≤ c.toInt ∧ c.toInt ≤ 2 → r.toInt = rdA (Au (σ.1 71 0).toInt (σ.1 86) (σ.1 71 17).toInt.toNat 0 [] 0) (σ.1 71 17).toInt.toNat) ∧ (¬ (0 ≤ c.toInt ∧ c.toInt ≤ 2) → r.toInt = -1)) ∧ RdM σ.1 τ.1 c r)))  : ∀ (n : Nat) (τ : Sg) (z : Int32), (Fr [85, 109] [(71, 17), (71, 49)] σ τ) → ((τ.1 71 17).toInt = 0) → (∀ j : Nat, (j : Int) < z.toInt → τ.1 85 (60 * c.toInt.toNat + j) = σ.1 86 j) → (∀ j : Nat, ¬ (60 * c.toInt.toNat ≤ j ∧ j < 60 * c.toInt.toNat + 60) → τ.1 85 j = σ.1 85 j) → (0 ≤ z.toInt ∧ z.toInt ≤ n0.toInt) → (60 - z.toInt).toNat < n → WP E ad 36 [some (.ref (ad 71)), some (.int c), some (.int g), some (.int n0), some (.int z)] [] τ := by
  intro n
  induction n with
  | zero => intro τ z kF k17 kx ko h0 hm9; exact absurd hm9 (Nat.not_lt_zero _)
  | succ n ih =>
    intro τ z kF k17 kx ko h0 hm9
    refine s_iload C dX10_read_36 rfl ?_
    refine s_iload_n C dX10_read_38 rfl ?_
    refine s_icmp_ge (tgt := 67) C dX10_read_39 (by decide) (fun q1 => ?_) (fun q1 => ?_)
    · refine s_aload_n C dX10_read_67 rfl ?_
      refine s_getr (k := 15) (j := 84) C y71 fw_X10_52 rfl dX10_read_68 ?_
      refine s_iload_n C dX10_read_71 rfl ?_
      refine s_iload_n C dX10_read_72 rfl ?_
      refine s_iast C y84 (by omega) dX10_read_73 ?_
      refine s_iload_n C dX10_read_74 rfl ?_
      exact s_iret C X dX10_read_75 ⟨im_read hI hc hn hW kF k17 (fun j hj => kx j (by omega)) ko, (Fr.sV (Fr.tr Fr.rf (Fr.mo kF (by decide) (by decide))) (Or.inl (by decide))), ⟨fun _ => k17, fun q => absurd hc q⟩, ⟨fun _ => hA, fun q => absurd hc q⟩, ⟨fun _ => ⟨by rw [← hn0]; exact hp0, by show upd (τ.1 84) c.toNatClampNeg n0 = _; rw [kF.a 84 (by decide) (by decide), hn0]⟩, fun q => absurd ⟨hc, by omega⟩ q⟩⟩
    · refine s_aload_n C dX10_read_42 rfl ?_
      refine s_getr (k := 16) (j := 85) C y71 fw_X10_55 rfl dX10_read_43 ?_
      refine s_bipush C dX10_read_46 (by decide) (fun z2 tz2 => ?_)
      refine s_iload_n C dX10_read_48 rfl ?_
      refine s_imulL C tz2 dX10_read_49 (by omega) (fun z3 tz3 => ?_)
      refine s_iload C dX10_read_50 rfl ?_
      refine s_iadd C dX10_read_52 (by omega) (fun z4 tz4 => ?_)
      refine s_aload_n C dX10_read_53 rfl ?_
      refine s_getr (k := 18) (j := 86) C y71 fw_X10_58 rfl dX10_read_54 ?_
      refine s_iload C dX10_read_57 rfl ?_
      refine s_iald (r := (τ.1 86 z.toNatClampNeg)) C y86 (by omega) rfl dX10_read_59 ?_
      refine s_iast C y85 (by omega) dX10_read_60 ?_
      refine s_iinc C dX10_read_61 rfl (by decide) rfl (by decide) (by omega) (fun z5 tz5 => ?_)
      show WP E ad 64 [some (.ref (ad 71)), some (.int c), some (.int g), some (.int n0), some (.int z5)] [] (sV τ 85 z4.toNatClampNeg (τ.1 86 z.toNatClampNeg))
      refine s_goto (tgt := 36) C dX10_read_64 (by decide) ?_
      have hi : z4.toNatClampNeg = 60 * c.toInt.toNat + z.toInt.toNat := by unfold Int32.toNatClampNeg; omega
      have hv : (τ.1 86 z.toNatClampNeg) = σ.1 86 z.toInt.toNat := by rw [kF.a 86 (by decide) (by decide)]; rfl
      exact ih (sV τ 85 z4.toNatClampNeg (τ.1 86 z.toNatClampNeg)) z5 (Fr.sV (Fr.tr Fr.rf (Fr.mo kF (by decide) (by decide))) (Or.inl (by decide))) k17 (fun j hj => by show upd (τ.1 85) z4.toNatClampNeg (τ.1 86 z.toNatClampNeg) _ = _; rw [hi]; by_cases q : j = z.toInt.toNat; (rw [q, pk_us]; exact hv); (rw [pk_un (by omega)]; exact kx j (by omega))) (fun j hj => by show upd (τ.1 85) z4.toNatClampNeg (τ.1 86 z.toNatClampNeg) _ = _; rw [hi, pk_un (by omega)]; exact ko j hj) (by omega) (by omega)
set_option maxRecDepth 100000 in
theorem f2_X10_read (l : Launch) (ad : Nat → Nat) (σ : Sg) (c : Int32) (hI : IM σ.1) : Mt l yX10_read cX10_read 5 (some .int) 4 ad σ [.ref (ad 71), .int c] (oI (fun r τ => IM τ.1 ∧ Fr [84, 85, 109] [(71, 17), (71, 49)] σ τ ∧ ((0 ≤ c.toInt ∧ c.toInt ≤ 2 → (τ.1 71 17).toInt = 0) ∧ (¬ (0 ≤ c.toInt ∧ c.toInt ≤ 2) → τ.1 71 17 = σ.1 71 17)) ∧ ((0 ≤ c.toInt ∧ c.toInt ≤ 2 → r.toInt = rdA (Au (σ.1 71 0).toInt (σ.1 86) (σ.1 71 17).toInt.toNat 0 [] 0) (σ.1 71 17).toInt.toNat) ∧ (¬ (0 ≤ c.toInt ∧ c.toInt ≤ 2) → r.toInt = -1)) ∧ RdM σ.1 τ.1 c r)) := by
  have htp := hI.tp
  have hpr := hI.pr
  refine Mt_intro (by decide +kernel) (by simp [lg_sl, Value.category]) (fun E C X => ?_)
  show WP E ad 0 [some (.ref (ad 71)), some (.int c), none, none, none] [] σ
  refine s_iload_n C dX10_read_0 rfl ?_
  refine s_callSI (st := []) C (c_X10_isCondition l ad σ c ) cv_X10_274 rfl rfl ⟨by decide, by decide⟩ (Nat.le_of_ble_eq_true rfl) dX10_read_1 ?_
  intro r1 τ2 h3
  obtain ⟨eh3, h3⟩ := h3; replace eh3 := eh3.symm; subst eh3
  refine s_if_ne (tgt := 9) C dX10_read_4 (by decide) (fun q4 => ?_) (fun q4 => ?_)
  · refine s_aload_n C dX10_read_9 rfl ?_
    refine s_callVI (st := []) C (f_conditionFault l ad σ htp hpr) cv_X10_277 y71 rfl rfl rfl ⟨by decide, by decide⟩ (Nat.le_of_ble_eq_true rfl) dX10_read_10 ?_
    intro r5 τ6 h7
    have bh7 : -1 ≤ Int32.toInt r5 ∧ Int32.toInt r5 ≤ 70 := h7.2.2
    have ah7 := h7.2.1
    have fh7 : τ6.1 71 17 = σ.1 71 17 := h7.1.f 71 17 (by decide) (by decide)
    have fih7 : Int32.toInt (τ6.1 71 17) = Int32.toInt (σ.1 71 17) := by rw [fh7]
    refine s_istore_n C dX10_read_13 (by decide) (Nat.le_of_ble_eq_true rfl) rfl ?_
    show WP E ad 14 [some (.ref (ad 71)), some (.int c), some (.int r5), none, none] [] τ6
    refine s_aload_n C dX10_read_14 rfl ?_
    refine s_get (k := 17) (x := (τ6.1 71 17)) C y71 fw_X10_247 rfl rfl dX10_read_15 ?_
    refine s_istore_n C dX10_read_18 (by decide) (Nat.le_of_ble_eq_true rfl) rfl ?_
    show WP E ad 19 [some (.ref (ad 71)), some (.int c), some (.int r5), some (.int (τ6.1 71 17)), none] [] τ6
    refine s_aload_n C dX10_read_19 rfl ?_
    refine s_iconst C dX10_read_20 (by decide) (fun z8 tz8 => ?_)
    refine s_put (k := 17) C y71 fw_X10_247 fp_9_17 rfl dX10_read_21 ?_
    refine s_iload_n C dX10_read_24 rfl ?_
    refine s_if_lt (tgt := 33) C dX10_read_25 (by decide) (fun q9 => ?_) (fun q9 => ?_)
    · refine s_iconst C dX10_read_33 (by decide) (fun z10 tz10 => ?_)
      refine s_istore C dX10_read_34 (by decide) (Nat.le_of_ble_eq_true rfl) rfl ?_
      show WP E ad 36 [some (.ref (ad 71)), some (.int c), some (.int r5), some (.int (τ6.1 71 17)), some (.int z10)] [] (sV τ6 71 17 z8)
      exact L_fread2 l ad E σ hI c r5 (τ6.1 71 17) (by omega) (by omega) (by rw [fh7]; exact Au_WF hpr.2 (by omega)) (by unfold rdA; rw [if_pos (by omega)]; omega) fh7 (by have q9 := Au_pos (show Au (σ.1 71 0).toInt (σ.1 86) (σ.1 71 17).toInt.toNat 0 [] 0 < 0 by omega); omega) C X 100 (sV τ6 71 17 z8) z10 (Fr.sV (h7.1.mo (by decide) (by decide)) (Or.inr (by decide))) (by show Int32.toInt z8 = 0; omega) (fun j hj => by omega) (fun j hj => by show τ6.1 85 j = _; rw [h7.1.a 85 (by decide) (by decide)]) (by omega) (by omega)
    · refine s_bipush C dX10_read_28 (by decide) (fun z11 tz11 => ?_)
      refine s_iload_n C dX10_read_30 rfl ?_
      refine s_isub C dX10_read_31 (by omega) (fun z12 tz12 => ?_)
      exact s_iret C X dX10_read_32 ⟨(by have k : IM τ6.1 := IM.keep hI h7.1 (by decide) (by decide) (by decide); exact ⟨k.1, k.2.1, (by show 0 ≤ Int32.toInt z8 ∧ Int32.toInt z8 ≤ 60; omega), k.2.2.2.1, k.2.2.2.2.1, k.2.2.2.2.2.1, k.2.2.2.2.2.2⟩), (Fr.sV (Fr.tr Fr.rf (Fr.mo h7.1 (by decide) (by decide))) (Or.inr (by decide))), ⟨fun _ => by show Int32.toInt z8 = 0; omega, fun q => by omega⟩, ⟨fun _ => by unfold rdA; rw [if_neg (by omega)]; omega, fun q => by omega⟩, ⟨(fun q => by omega), fun _ => h7.1.a 84 (by decide) (by decide)⟩⟩
  · refine s_iconst C dX10_read_7 (by decide) (fun z13 tz13 => ?_)
    exact s_iret C X dX10_read_8 ⟨hI, Fr.rf, ⟨fun q => by omega, fun _ => rfl⟩, ⟨fun q => by omega, fun _ => by omega⟩, ⟨(fun q => by omega), fun _ => rfl⟩⟩
