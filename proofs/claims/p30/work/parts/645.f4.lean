def LkF (U : Nat → Nat → Int32) (c f r : Int32) : Prop := (¬ (0 ≤ c.toInt ∧ c.toInt ≤ 2 ∧ ¬ f.toInt = 0) → r.toInt = -1) ∧ (c.toInt = 0 → ¬ f.toInt = 0 → (r.toInt = -3 ∧ (U 31 0).toInt = 0) ∨ (r.toInt = 0 ∧ ¬ (U 31 0).toInt = 0)) ∧ (c.toInt = 1 → ¬ f.toInt = 0 → (r.toInt = -3 ∧ (U 32 0).toInt = 0) ∨ (r.toInt = 0 ∧ ¬ (U 32 0).toInt = 0)) ∧ (c.toInt = 2 → ¬ f.toInt = 0 → (r.toInt = -3 ∧ (U 33 0).toInt = 0) ∨ (r.toInt = 0 ∧ ¬ (U 33 0).toInt = 0))
/-- forget's answer, by the conditions told -/
def FaX (U : Nat → Nat → Int32) (c r : Int32) : Prop := (¬ (0 ≤ c.toInt ∧ c.toInt ≤ 2) → r.toInt = -1) ∧ (c.toInt = 0 → (r.toInt = -3 ∧ (U 31 0).toInt = 0) ∨ (r.toInt = 1 ∧ ¬ (U 31 0).toInt = 0)) ∧ (c.toInt = 1 → (r.toInt = -3 ∧ (U 32 0).toInt = 0) ∨ (r.toInt = 1 ∧ ¬ (U 32 0).toInt = 0)) ∧ (c.toInt = 2 → (r.toInt = -3 ∧ (U 33 0).toInt = 0) ∨ (r.toInt = 1 ∧ ¬ (U 33 0).toInt = 0))
def FdX (U V : Nat → Nat → Int32) (c r : Int32) : Prop := ((c.toInt = 0 ∧ r.toInt = 1 → (V 31 0).toInt = 0) ∧ (¬ (c.toInt = 0 ∧ r.toInt = 1) → V 31 0 = U 31 0)) ∧ ((c.toInt = 1 ∧ r.toInt = 1 → (V 32 0).toInt = 0) ∧ (¬ (c.toInt = 1 ∧ r.toInt = 1) → V 32 0 = U 32 0)) ∧ ((c.toInt = 2 ∧ r.toInt = 1 → (V 33 0).toInt = 0) ∧ (¬ (c.toInt = 2 ∧ r.toInt = 1) → V 33 0 = U 33 0))
def RdX (U V : Nat → Nat → Int32) (c r : Int32) : Prop := ((c.toInt = 0 ∧ 0 ≤ r.toInt → (V 31 0).toInt = 1) ∧ (¬ (c.toInt = 0 ∧ 0 ≤ r.toInt) → V 31 0 = U 31 0)) ∧ ((c.toInt = 1 ∧ 0 ≤ r.toInt → (V 32 0).toInt = 1) ∧ (¬ (c.toInt = 1 ∧ 0 ≤ r.toInt) → V 32 0 = U 32 0)) ∧ ((c.toInt = 2 ∧ 0 ≤ r.toInt → (V 33 0).toInt = 1) ∧ (¬ (c.toInt = 2 ∧ 0 ≤ r.toInt) → V 33 0 = U 33 0))
set_option maxRecDepth 100000 in
theorem f_lackOf (l : Launch) (ad : Nat → Nat) (σ : Sg) (c f : Int32) : Mt l yX9_lackOf cX9_lackOf 3 (some .int) 1 ad σ [.ref (ad 0), .int c, .int f] (oI (fun r τ => τ = σ ∧ LkF σ.1 c f r)) := by
  refine Mt_intro (by decide +kernel) (by simp [lg_sl, Value.category]) (fun E C X => ?_)
  show WP E ad 0 [some (.ref (ad 0)), some (.int c), some (.int f)] [] σ
  refine s_iload_n C dX9_lackOf_0 rfl ?_
  refine s_callSI (st := []) C (c_X9_isCondition l ad σ c ) cv_X9_233 rfl rfl ⟨by decide, by decide⟩ (Nat.le_of_ble_eq_true rfl) dX9_lackOf_1 ?_
  intro r1 τ2 h3
  obtain ⟨eh3, h3⟩ := h3; replace eh3 := eh3.symm; subst eh3
  refine s_if_eq (tgt := 11) C dX9_lackOf_4 (by decide) (fun q4 => ?_) (fun q4 => ?_)
  · refine s_iconst C dX9_lackOf_11 (by decide) (fun z5 tz5 => ?_)
    exact s_iret C X dX9_lackOf_12 ⟨rfl, fun q => by omega, fun q q2 => by omega, fun q q2 => by omega, fun q q2 => by omega⟩
  · refine s_iload_n C dX9_lackOf_7 rfl ?_
    refine s_if_ne (tgt := 13) C dX9_lackOf_8 (by decide) (fun q6 => ?_) (fun q6 => ?_)
    · obtain hc7 | hc7 | hc7 : c.toInt = 0 ∨ c.toInt = 1 ∨ c.toInt = 2 := by omega
      · have hnhc7 : c.toNatClampNeg = 0 := by unfold Int32.toNatClampNeg; omega
        refine s_aload_n C dX9_lackOf_13 rfl ?_
        refine s_getr (k := 2) (j := 27) C y0 fw_X9_23 rfl dX9_lackOf_14 ?_
        refine s_iload_n C dX9_lackOf_17 rfl ?_
        refine s_aald (kd := 0) C y27 ⟨_, rfl⟩ (by omega) dX9_lackOf_18 ?_
        rw [show c.toNatClampNeg = 0 by unfold Int32.toNatClampNeg; omega]
        refine s_get (k := 0) (x := (σ.1 31 0)) C y31 fw_X9_91 rfl rfl dX9_lackOf_19 ?_
        refine s_if_eq (tgt := 29) C dX9_lackOf_22 (by decide) (fun q8 => ?_) (fun q8 => ?_)
        · refine s_bipush C dX9_lackOf_29 (by decide) (fun z9 tz9 => ?_)
          exact s_iret C X dX9_lackOf_31 ⟨rfl, fun q => by omega, fun q q2 => by omega, fun q q2 => by omega, fun q q2 => by omega⟩
        · refine s_iconst C dX9_lackOf_25 (by decide) (fun z10 tz10 => ?_)
          refine s_goto (tgt := 31) C dX9_lackOf_26 (by decide) ?_
          exact s_iret C X dX9_lackOf_31 ⟨rfl, fun q => by omega, fun q q2 => by omega, fun q q2 => by omega, fun q q2 => by omega⟩
      · have hnhc7 : c.toNatClampNeg = 1 := by unfold Int32.toNatClampNeg; omega
        refine s_aload_n C dX9_lackOf_13 rfl ?_
        refine s_getr (k := 2) (j := 27) C y0 fw_X9_23 rfl dX9_lackOf_14 ?_
        refine s_iload_n C dX9_lackOf_17 rfl ?_
        refine s_aald (kd := 0) C y27 ⟨_, rfl⟩ (by omega) dX9_lackOf_18 ?_
        rw [show c.toNatClampNeg = 1 by unfold Int32.toNatClampNeg; omega]
        refine s_get (k := 0) (x := (σ.1 32 0)) C y32 fw_X9_91 rfl rfl dX9_lackOf_19 ?_
        refine s_if_eq (tgt := 29) C dX9_lackOf_22 (by decide) (fun q11 => ?_) (fun q11 => ?_)
        · refine s_bipush C dX9_lackOf_29 (by decide) (fun z12 tz12 => ?_)
          exact s_iret C X dX9_lackOf_31 ⟨rfl, fun q => by omega, fun q q2 => by omega, fun q q2 => by omega, fun q q2 => by omega⟩
        · refine s_iconst C dX9_lackOf_25 (by decide) (fun z13 tz13 => ?_)
          refine s_goto (tgt := 31) C dX9_lackOf_26 (by decide) ?_
          exact s_iret C X dX9_lackOf_31 ⟨rfl, fun q => by omega, fun q q2 => by omega, fun q q2 => by omega, fun q q2 => by omega⟩
      · have hnhc7 : c.toNatClampNeg = 2 := by unfold Int32.toNatClampNeg; omega
        refine s_aload_n C dX9_lackOf_13 rfl ?_
        refine s_getr (k := 2) (j := 27) C y0 fw_X9_23 rfl dX9_lackOf_14 ?_
        refine s_iload_n C dX9_lackOf_17 rfl ?_
        refine s_aald (kd := 0) C y27 ⟨_, rfl⟩ (by omega) dX9_lackOf_18 ?_
        rw [show c.toNatClampNeg = 2 by unfold Int32.toNatClampNeg; omega]
        refine s_get (k := 0) (x := (σ.1 33 0)) C y33 fw_X9_91 rfl rfl dX9_lackOf_19 ?_
        refine s_if_eq (tgt := 29) C dX9_lackOf_22 (by decide) (fun q14 => ?_) (fun q14 => ?_)
        · refine s_bipush C dX9_lackOf_29 (by decide) (fun z15 tz15 => ?_)
          exact s_iret C X dX9_lackOf_31 ⟨rfl, fun q => by omega, fun q q2 => by omega, fun q q2 => by omega, fun q q2 => by omega⟩
        · refine s_iconst C dX9_lackOf_25 (by decide) (fun z16 tz16 => ?_)
          refine s_goto (tgt := 31) C dX9_lackOf_26 (by decide) ?_
          exact s_iret C X dX9_lackOf_31 ⟨rfl, fun q => by omega, fun q q2 => by omega, fun q q2 => by omega, fun q q2 => by omega⟩
    · refine s_iconst C dX9_lackOf_11 (by decide) (fun z17 tz17 => ?_)
      exact s_iret C X dX9_lackOf_12 ⟨rfl, fun q => by omega, fun q q2 => by omega, fun q q2 => by omega, fun q q2 => by omega⟩
set_option maxRecDepth 100000 in
theorem f_X9_forget (l : Launch) (ad : Nat → Nat) (σ : Sg) (c : Int32) (hX : IX σ.1)  : Mt l yX9_forget cX9_forget 3 (some .int) 2 ad σ [.ref (ad 0), .int c] (oI (fun r τ => IX τ.1 ∧ Fr [] [(31, 0), (32, 0), (33, 0)] σ τ ∧ FaX σ.1 c r ∧ FdX σ.1 τ.1 c r)) := by
  refine Mt_intro (by decide +kernel) (by simp [lg_sl, Value.category]) (fun E C X => ?_)
  show WP E ad 0 [some (.ref (ad 0)), some (.int c), none] [] σ
  refine s_aload_n C dX9_forget_0 rfl ?_
  refine s_iload_n C dX9_forget_1 rfl ?_
  refine s_iconst C dX9_forget_2 (by decide) (fun z1 tz1 => ?_)
  refine s_callVI (st := []) C (f_lackOf l ad σ c z1) cv_X9_259 y0 rfl rfl rfl ⟨by decide, by decide⟩ (Nat.le_of_ble_eq_true rfl) dX9_forget_3 ?_
  intro r2 τ3 h4
  obtain ⟨eh4, h4⟩ := h4; replace eh4 := eh4.symm; subst eh4
  obtain ⟨k0h4, k1h4, k2h4, k3h4⟩ := h4
  refine s_istore_n C dX9_forget_6 (by decide) (Nat.le_of_ble_eq_true rfl) rfl ?_
  show WP E ad 7 [some (.ref (ad 0)), some (.int c), some (.int r2)] [] σ
  refine s_iload_n C dX9_forget_7 rfl ?_
  refine s_if_eq (tgt := 13) C dX9_forget_8 (by decide) (fun q5 => ?_) (fun q5 => ?_)
  · obtain hc6 | hc6 | hc6 : c.toInt = 0 ∨ c.toInt = 1 ∨ c.toInt = 2 := by omega
    · have hnhc6 : c.toNatClampNeg = 0 := by unfold Int32.toNatClampNeg; omega
      refine s_aload_n C dX9_forget_13 rfl ?_
      refine s_getr (k := 2) (j := 27) C y0 fw_X9_23 rfl dX9_forget_14 ?_
      refine s_iload_n C dX9_forget_17 rfl ?_
      refine s_aald (kd := 0) C y27 ⟨_, rfl⟩ (by omega) dX9_forget_18 ?_
      rw [show c.toNatClampNeg = 0 by unfold Int32.toNatClampNeg; omega]
      refine s_iconst C dX9_forget_19 (by decide) (fun z7 tz7 => ?_)
      refine s_putz (k := 0) C y31 fw_X9_91 fp_0_0 rfl (by omega) dX9_forget_20 ?_
      refine s_iconst C dX9_forget_23 (by decide) (fun z8 tz8 => ?_)
      exact s_iret C X dX9_forget_24 ⟨⟨hX.1, hX.2.1, ⟨Or.inl (by show Int32.toInt z7 = 0; omega), hX.C0.2⟩, hX.2.2.2.1, hX.2.2.2.2.1, hX.2.2.2.2.2.1, hX.2.2.2.2.2.2.1, hX.2.2.2.2.2.2.2.1, hX.2.2.2.2.2.2.2.2.1, hX.2.2.2.2.2.2.2.2.2.1, hX.2.2.2.2.2.2.2.2.2.2.1, hX.2.2.2.2.2.2.2.2.2.2.2.1, hX.2.2.2.2.2.2.2.2.2.2.2.2.1, hX.2.2.2.2.2.2.2.2.2.2.2.2.2⟩, (Fr.sV Fr.rf (Or.inr (by decide))), ⟨(fun q => by omega), (fun q => by omega), (fun q => by omega), fun q => by omega⟩, ⟨⟨(fun _ => by show Int32.toInt z7 = 0; omega), fun q => absurd ⟨by omega, by omega⟩ q⟩, ⟨(fun q => by omega), fun _ => rfl⟩, ⟨(fun q => by omega), fun _ => rfl⟩⟩⟩
    · have hnhc6 : c.toNatClampNeg = 1 := by unfold Int32.toNatClampNeg; omega
      refine s_aload_n C dX9_forget_13 rfl ?_
      refine s_getr (k := 2) (j := 27) C y0 fw_X9_23 rfl dX9_forget_14 ?_
      refine s_iload_n C dX9_forget_17 rfl ?_
      refine s_aald (kd := 0) C y27 ⟨_, rfl⟩ (by omega) dX9_forget_18 ?_
      rw [show c.toNatClampNeg = 1 by unfold Int32.toNatClampNeg; omega]
      refine s_iconst C dX9_forget_19 (by decide) (fun z9 tz9 => ?_)
      refine s_putz (k := 0) C y32 fw_X9_91 fp_0_0 rfl (by omega) dX9_forget_20 ?_
      refine s_iconst C dX9_forget_23 (by decide) (fun z10 tz10 => ?_)
      exact s_iret C X dX9_forget_24 ⟨⟨hX.1, hX.2.1, hX.2.2.1, ⟨Or.inl (by show Int32.toInt z9 = 0; omega), hX.C1.2⟩, hX.2.2.2.2.1, hX.2.2.2.2.2.1, hX.2.2.2.2.2.2.1, hX.2.2.2.2.2.2.2.1, hX.2.2.2.2.2.2.2.2.1, hX.2.2.2.2.2.2.2.2.2.1, hX.2.2.2.2.2.2.2.2.2.2.1, hX.2.2.2.2.2.2.2.2.2.2.2.1, hX.2.2.2.2.2.2.2.2.2.2.2.2.1, hX.2.2.2.2.2.2.2.2.2.2.2.2.2⟩, (Fr.sV Fr.rf (Or.inr (by decide))), ⟨(fun q => by omega), (fun q => by omega), (fun q => by omega), fun q => by omega⟩, ⟨⟨(fun q => by omega), fun _ => rfl⟩, ⟨(fun _ => by show Int32.toInt z9 = 0; omega), fun q => absurd ⟨by omega, by omega⟩ q⟩, ⟨(fun q => by omega), fun _ => rfl⟩⟩⟩
    · have hnhc6 : c.toNatClampNeg = 2 := by unfold Int32.toNatClampNeg; omega
      refine s_aload_n C dX9_forget_13 rfl ?_
      refine s_getr (k := 2) (j := 27) C y0 fw_X9_23 rfl dX9_forget_14 ?_
      refine s_iload_n C dX9_forget_17 rfl ?_
      refine s_aald (kd := 0) C y27 ⟨_, rfl⟩ (by omega) dX9_forget_18 ?_
      rw [show c.toNatClampNeg = 2 by unfold Int32.toNatClampNeg; omega]
      refine s_iconst C dX9_forget_19 (by decide) (fun z11 tz11 => ?_)
      refine s_putz (k := 0) C y33 fw_X9_91 fp_0_0 rfl (by omega) dX9_forget_20 ?_
      refine s_iconst C dX9_forget_23 (by decide) (fun z12 tz12 => ?_)
      exact s_iret C X dX9_forget_24 ⟨⟨hX.1, hX.2.1, hX.2.2.1, hX.2.2.2.1, ⟨Or.inl (by show Int32.toInt z11 = 0; omega), hX.C2.2⟩, hX.2.2.2.2.2.1, hX.2.2.2.2.2.2.1, hX.2.2.2.2.2.2.2.1, hX.2.2.2.2.2.2.2.2.1, hX.2.2.2.2.2.2.2.2.2.1, hX.2.2.2.2.2.2.2.2.2.2.1, hX.2.2.2.2.2.2.2.2.2.2.2.1, hX.2.2.2.2.2.2.2.2.2.2.2.2.1, hX.2.2.2.2.2.2.2.2.2.2.2.2.2⟩, (Fr.sV Fr.rf (Or.inr (by decide))), ⟨(fun q => by omega), (fun q => by omega), (fun q => by omega), fun q => by omega⟩, ⟨⟨(fun q => by omega), fun _ => rfl⟩, ⟨(fun q => by omega), fun _ => rfl⟩, ⟨(fun _ => by show Int32.toInt z11 = 0; omega), fun q => absurd ⟨by omega, by omega⟩ q⟩⟩⟩
  · refine s_iload_n C dX9_forget_11 rfl ?_
    exact s_iret C X dX9_forget_12 ⟨hX, Fr.rf, ⟨(fun q => by omega), (fun q => by omega), (fun q => by omega), fun q => by omega⟩, ⟨⟨(fun q => by omega), fun _ => rfl⟩, ⟨(fun q => by omega), fun _ => rfl⟩, ⟨(fun q => by omega), fun _ => rfl⟩⟩⟩
set_option maxRecDepth 100000 in
theorem f_X9_processes (l : Launch) (ad : Nat → Nat) (σ : Sg) (n : Int32) (hX : IX σ.1)  : Mt l yX9_processes cX9_processes 4 (some .int) 2 ad σ [.ref (ad 0), .int n] (oI (fun r τ => IX τ.1 ∧ Fr [2, 3] [(1, 0), (1, 1), (1, 2), (31, 0), (32, 0), (33, 0), (61, 1), (37, 3), (38, 3), (39, 3)] σ τ ∧ (((1 ≤ n.toInt ∧ n.toInt ≤ 4) ∧ r = σ.1 1 0 ∧ τ.1 1 0 = n ∧ ∀ j, (τ.1 2 j).toInt = 0) ∨ (¬ (1 ≤ n.toInt ∧ n.toInt ≤ 4) ∧ r.toInt = -2 ∧ τ.1 1 0 = σ.1 1 0 ∧ τ.1 2 = σ.1 2)) ∧ (((1 ≤ n.toInt ∧ n.toInt ≤ 4) → (τ.1 31 0).toInt = 0 ∧ (τ.1 32 0).toInt = 0 ∧ (τ.1 33 0).toInt = 0) ∧ (¬ (1 ≤ n.toInt ∧ n.toInt ≤ 4) → τ.1 31 0 = σ.1 31 0 ∧ τ.1 32 0 = σ.1 32 0 ∧ τ.1 33 0 = σ.1 33 0)))) := by
  refine Mt_intro (by decide +kernel) (by simp [lg_sl, Value.category]) (fun E C X => ?_)
  show WP E ad 0 [some (.ref (ad 0)), some (.int n), none, none] [] σ
  refine s_iload_n C dX9_processes_0 rfl ?_
  refine s_iconst C dX9_processes_1 (by decide) (fun z1 tz1 => ?_)
  refine s_icmp_lt (tgt := 10) C dX9_processes_2 (by decide) (fun q2 => ?_) (fun q2 => ?_)
  · refine s_bipush C dX9_processes_10 (by decide) (fun z3 tz3 => ?_)
    exact s_iret C X dX9_processes_12 ⟨hX, Fr.rf, Or.inr ⟨by omega, by omega, rfl, rfl⟩, (fun q => by omega), fun _ => ⟨rfl, rfl, rfl⟩⟩
  · refine s_iload_n C dX9_processes_5 rfl ?_
    refine s_iconst C dX9_processes_6 (by decide) (fun z4 tz4 => ?_)
    refine s_icmp_le (tgt := 13) C dX9_processes_7 (by decide) (fun q5 => ?_) (fun q5 => ?_)
    · refine s_aload_n C dX9_processes_13 rfl ?_
      refine s_getr (k := 0) (j := 1) C y0 fw_X9_12 rfl dX9_processes_14 ?_
      refine s_get (k := 0) (x := (σ.1 1 0)) C y1 fw_X9_83 rfl rfl dX9_processes_17 ?_
      refine s_istore_n C dX9_processes_20 (by decide) (Nat.le_of_ble_eq_true rfl) rfl ?_
      show WP E ad 21 [some (.ref (ad 0)), some (.int n), some (.int (σ.1 1 0)), none] [] σ
      refine s_aload_n C dX9_processes_21 rfl ?_
      refine s_getr (k := 0) (j := 1) C y0 fw_X9_12 rfl dX9_processes_22 ?_
      refine s_iload_n C dX9_processes_25 rfl ?_
      refine s_callVV (st := []) C (c_X5_beginWith l ad σ n hX (by omega)) cv_X9_87 y1 rfl rfl rfl ⟨by decide, by decide⟩ (Nat.le_of_ble_eq_true rfl) dX9_processes_26 ?_
      intro τ7 h8
      have hXτ7 := h8.1
      have hRτ7 := h8.2.2
      refine s_iconst C dX9_processes_29 (by decide) (fun z9 tz9 => ?_)
      refine s_istore_n C dX9_processes_30 (by decide) (Nat.le_of_ble_eq_true rfl) rfl ?_
      show WP E ad 31 [some (.ref (ad 0)), some (.int n), some (.int (σ.1 1 0)), some (.int z9)] [] τ7
      refine s_iload_n C dX9_processes_31 rfl ?_
      refine s_iconst C dX9_processes_32 (by decide) (fun z10 tz10 => ?_)
      refine s_icmp_ge (tgt := 52) C dX9_processes_33 (by decide) (fun q11 => ?_) (fun q11 => ?_)
      · omega
      · refine s_aload_n C dX9_processes_36 rfl ?_
        refine s_getr (k := 2) (j := 27) C y0 fw_X9_23 rfl dX9_processes_37 ?_
        refine s_iload_n C dX9_processes_40 rfl ?_
        refine s_aald (kd := 0) C y27 ⟨_, rfl⟩ (by omega) dX9_processes_41 ?_
        rw [show z9.toNatClampNeg = 0 by unfold Int32.toNatClampNeg; omega]
        refine s_iconst C dX9_processes_42 (by decide) (fun z12 tz12 => ?_)
        refine s_putz (k := 0) C y31 fw_X9_91 fp_0_0 rfl (by omega) dX9_processes_43 ?_
        refine s_iinc C dX9_processes_46 rfl (by decide) rfl (by decide) (by omega) (fun z13 tz13 => ?_)
        show WP E ad 49 [some (.ref (ad 0)), some (.int n), some (.int (σ.1 1 0)), some (.int z13)] [] (sV τ7 31 0 z12)
        refine s_goto (tgt := 31) C dX9_processes_49 (by decide) ?_
        refine s_iload_n C dX9_processes_31 rfl ?_
        refine s_iconst C dX9_processes_32 (by decide) (fun z14 tz14 => ?_)
        refine s_icmp_ge (tgt := 52) C dX9_processes_33 (by decide) (fun q15 => ?_) (fun q15 => ?_)
        · omega
        · refine s_aload_n C dX9_processes_36 rfl ?_
          refine s_getr (k := 2) (j := 27) C y0 fw_X9_23 rfl dX9_processes_37 ?_
          refine s_iload_n C dX9_processes_40 rfl ?_
          refine s_aald (kd := 0) C y27 ⟨_, rfl⟩ (by omega) dX9_processes_41 ?_
          rw [show z13.toNatClampNeg = 1 by unfold Int32.toNatClampNeg; omega]
          refine s_iconst C dX9_processes_42 (by decide) (fun z16 tz16 => ?_)
          refine s_putz (k := 0) C y32 fw_X9_91 fp_0_0 rfl (by omega) dX9_processes_43 ?_
          refine s_iinc C dX9_processes_46 rfl (by decide) rfl (by decide) (by omega) (fun z17 tz17 => ?_)
          show WP E ad 49 [some (.ref (ad 0)), some (.int n), some (.int (σ.1 1 0)), some (.int z17)] [] (sV (sV τ7 31 0 z12) 32 0 z16)
          refine s_goto (tgt := 31) C dX9_processes_49 (by decide) ?_
          refine s_iload_n C dX9_processes_31 rfl ?_
          refine s_iconst C dX9_processes_32 (by decide) (fun z18 tz18 => ?_)
          refine s_icmp_ge (tgt := 52) C dX9_processes_33 (by decide) (fun q19 => ?_) (fun q19 => ?_)
          · omega
          · refine s_aload_n C dX9_processes_36 rfl ?_
            refine s_getr (k := 2) (j := 27) C y0 fw_X9_23 rfl dX9_processes_37 ?_
            refine s_iload_n C dX9_processes_40 rfl ?_
            refine s_aald (kd := 0) C y27 ⟨_, rfl⟩ (by omega) dX9_processes_41 ?_
            rw [show z17.toNatClampNeg = 2 by unfold Int32.toNatClampNeg; omega]
            refine s_iconst C dX9_processes_42 (by decide) (fun z20 tz20 => ?_)
            refine s_putz (k := 0) C y33 fw_X9_91 fp_0_0 rfl (by omega) dX9_processes_43 ?_
            refine s_iinc C dX9_processes_46 rfl (by decide) rfl (by decide) (by omega) (fun z21 tz21 => ?_)
            show WP E ad 49 [some (.ref (ad 0)), some (.int n), some (.int (σ.1 1 0)), some (.int z21)] [] (sV (sV (sV τ7 31 0 z12) 32 0 z16) 33 0 z20)
            refine s_goto (tgt := 31) C dX9_processes_49 (by decide) ?_
            refine s_iload_n C dX9_processes_31 rfl ?_
            refine s_iconst C dX9_processes_32 (by decide) (fun z22 tz22 => ?_)
            refine s_icmp_ge (tgt := 52) C dX9_processes_33 (by decide) (fun q23 => ?_) (fun q23 => ?_)
            · refine s_aload_n C dX9_processes_52 rfl ?_
              refine s_callVV (st := []) C (c_X9_noteChange l ad (sV (sV (sV τ7 31 0 z12) 32 0 z16) 33 0 z20)  (show IX (sV (sV (sV τ7 31 0 z12) 32 0 z16) 33 0 z20).1 from ⟨hXτ7.1, hXτ7.2.1, ⟨Or.inl (by show Int32.toInt z12 = 0; omega), hXτ7.C0.2⟩, ⟨Or.inl (by show Int32.toInt z16 = 0; omega), hXτ7.C1.2⟩, ⟨Or.inl (by show Int32.toInt z20 = 0; omega), hXτ7.C2.2⟩, hXτ7.2.2.2.2.2.1, hXτ7.2.2.2.2.2.2.1, hXτ7.2.2.2.2.2.2.2.1, hXτ7.2.2.2.2.2.2.2.2.1, hXτ7.2.2.2.2.2.2.2.2.2.1, hXτ7.2.2.2.2.2.2.2.2.2.2.1, hXτ7.2.2.2.2.2.2.2.2.2.2.2.1, hXτ7.2.2.2.2.2.2.2.2.2.2.2.2.1, hXτ7.2.2.2.2.2.2.2.2.2.2.2.2.2⟩) ) cv_X9_94 y0 rfl rfl rfl ⟨by decide, by decide⟩ (Nat.le_of_ble_eq_true rfl) dX9_processes_53 ?_
              intro τ25 h26
              have hXτ25 := h26.1
              have hRτ25 := h26.2.2
              refine s_iload_n C dX9_processes_56 rfl ?_
              exact s_iret C X dX9_processes_57 ⟨hXτ25, (Fr.tr (Fr.sV (Fr.sV (Fr.sV (Fr.tr Fr.rf (Fr.mo h8.2.1 (by decide) (by decide))) (Or.inr (by decide))) (Or.inr (by decide))) (Or.inr (by decide))) (Fr.mo h26.2.1 (by decide) (by decide))), Or.inl ⟨by omega, rfl, ((h26.2.1).f 1 0 (by decide) (by decide)).trans hRτ7.1, fun j => (congrArg (fun f => (f j).toInt) ((h26.2.1).a 2 (by decide) (by decide))).trans (hRτ7.2 j)⟩, (fun _ => ⟨(congrArg Int32.toInt ((h26.2.1).f 31 0 (by decide) (by decide))).trans (by show Int32.toInt z12 = 0; omega), (congrArg Int32.toInt ((h26.2.1).f 32 0 (by decide) (by decide))).trans (by show Int32.toInt z16 = 0; omega), (congrArg Int32.toInt ((h26.2.1).f 33 0 (by decide) (by decide))).trans (by show Int32.toInt z20 = 0; omega)⟩), fun q => by omega⟩
            · omega
    · refine s_bipush C dX9_processes_10 (by decide) (fun z27 tz27 => ?_)
      exact s_iret C X dX9_processes_12 ⟨hX, Fr.rf, Or.inr ⟨by omega, by omega, rfl, rfl⟩, (fun q => by omega), fun _ => ⟨rfl, rfl, rfl⟩⟩
set_option maxRecDepth 100000 in
theorem f_X9_image (l : Launch) (ad : Nat → Nat) (σ : Sg)  (hX : IX σ.1)  : Mt l yX9_image cX9_image 2 (some .int) 2 ad σ [.ref (ad 0)] (oI (fun r τ => IX τ.1 ∧ Fr [15, 16, 17, 18, 19, 20, 21, 22, 23, 24, 25, 26, 46, 47, 48] [(14, 0), (14, 1), (14, 2), (34, 0), (34, 1), (35, 0), (35, 1), (36, 0), (36, 1), (0, 10)] σ τ ∧ τ.1 14 0 = σ.1 1 0 ∧ τ.1 15 = σ.1 2 ∧ (τ.1 0 10).toInt = 1 ∧ τ.1 34 0 = σ.1 31 0 ∧ τ.1 35 0 = σ.1 32 0 ∧ τ.1 36 0 = σ.1 33 0)) := by
  refine Mt_intro (by decide +kernel) (by simp [lg_sl, Value.category]) (fun E C X => ?_)
  show WP E ad 0 [some (.ref (ad 0)), none] [] σ
  refine s_aload_n C dX9_image_0 rfl ?_
  refine s_getr (k := 1) (j := 14) C y0 fw_X9_18 rfl dX9_image_1 ?_
  refine s_aload_n C dX9_image_4 rfl ?_
  refine s_getr (k := 0) (j := 1) C y0 fw_X9_12 rfl dX9_image_5 ?_
  refine s_callVV (st := []) C (c_X5_copyFrom_14 l ad σ  hX ) cv_X9_326 y14 rfl rfl rfl ⟨by decide, by decide⟩ (Nat.le_of_ble_eq_true rfl) dX9_image_8 ?_
  intro τ2 h3
  have hXτ2 := h3.1
  have hRτ2 := h3.2.2
  refine s_iconst C dX9_image_11 (by decide) (fun z4 tz4 => ?_)
  refine s_istore_n C dX9_image_12 (by decide) (Nat.le_of_ble_eq_true rfl) rfl ?_
  show WP E ad 13 [some (.ref (ad 0)), some (.int z4)] [] τ2
  refine s_iload_n C dX9_image_13 rfl ?_
  refine s_iconst C dX9_image_14 (by decide) (fun z5 tz5 => ?_)
  refine s_icmp_ge (tgt := 39) C dX9_image_15 (by decide) (fun q6 => ?_) (fun q6 => ?_)
  · omega
  · refine s_aload_n C dX9_image_18 rfl ?_
    refine s_getr (k := 3) (j := 28) C y0 fw_X9_27 rfl dX9_image_19 ?_
    refine s_iload_n C dX9_image_22 rfl ?_
    refine s_aald (kd := 0) C y28 ⟨_, rfl⟩ (by omega) dX9_image_23 ?_
    rw [show z4.toNatClampNeg = 0 by unfold Int32.toNatClampNeg; omega]
    refine s_aload_n C dX9_image_24 rfl ?_
    refine s_getr (k := 2) (j := 27) C y0 fw_X9_23 rfl dX9_image_25 ?_
    refine s_iload_n C dX9_image_28 rfl ?_
    refine s_aald (kd := 0) C y27 ⟨_, rfl⟩ (by omega) dX9_image_29 ?_
    rw [show z4.toNatClampNeg = 0 by unfold Int32.toNatClampNeg; omega]
    refine s_callVV (st := []) C (c_X0_copyFrom_34 l ad τ2  hXτ2 ) cv_X9_329 y34 rfl rfl rfl ⟨by decide, by decide⟩ (Nat.le_of_ble_eq_true rfl) dX9_image_30 ?_
    intro τ8 h9
    have hXτ8 := h9.1
    have hRτ8 := h9.2.2
    refine s_iinc C dX9_image_33 rfl (by decide) rfl (by decide) (by omega) (fun z10 tz10 => ?_)
    show WP E ad 36 [some (.ref (ad 0)), some (.int z10)] [] τ8
    refine s_goto (tgt := 13) C dX9_image_36 (by decide) ?_
    refine s_iload_n C dX9_image_13 rfl ?_
    refine s_iconst C dX9_image_14 (by decide) (fun z11 tz11 => ?_)
    refine s_icmp_ge (tgt := 39) C dX9_image_15 (by decide) (fun q12 => ?_) (fun q12 => ?_)
    · omega
    · refine s_aload_n C dX9_image_18 rfl ?_
      refine s_getr (k := 3) (j := 28) C y0 fw_X9_27 rfl dX9_image_19 ?_
      refine s_iload_n C dX9_image_22 rfl ?_
      refine s_aald (kd := 0) C y28 ⟨_, rfl⟩ (by omega) dX9_image_23 ?_
      rw [show z10.toNatClampNeg = 1 by unfold Int32.toNatClampNeg; omega]
      refine s_aload_n C dX9_image_24 rfl ?_
      refine s_getr (k := 2) (j := 27) C y0 fw_X9_23 rfl dX9_image_25 ?_
      refine s_iload_n C dX9_image_28 rfl ?_
      refine s_aald (kd := 0) C y27 ⟨_, rfl⟩ (by omega) dX9_image_29 ?_
      rw [show z10.toNatClampNeg = 1 by unfold Int32.toNatClampNeg; omega]
      refine s_callVV (st := []) C (c_X0_copyFrom_35 l ad τ8  hXτ8 ) cv_X9_329 y35 rfl rfl rfl ⟨by decide, by decide⟩ (Nat.le_of_ble_eq_true rfl) dX9_image_30 ?_
      intro τ14 h15
      have hXτ14 := h15.1
      have hRτ14 := h15.2.2
      refine s_iinc C dX9_image_33 rfl (by decide) rfl (by decide) (by omega) (fun z16 tz16 => ?_)
      show WP E ad 36 [some (.ref (ad 0)), some (.int z16)] [] τ14
      refine s_goto (tgt := 13) C dX9_image_36 (by decide) ?_
      refine s_iload_n C dX9_image_13 rfl ?_
      refine s_iconst C dX9_image_14 (by decide) (fun z17 tz17 => ?_)
      refine s_icmp_ge (tgt := 39) C dX9_image_15 (by decide) (fun q18 => ?_) (fun q18 => ?_)
      · omega
      · refine s_aload_n C dX9_image_18 rfl ?_
        refine s_getr (k := 3) (j := 28) C y0 fw_X9_27 rfl dX9_image_19 ?_
        refine s_iload_n C dX9_image_22 rfl ?_
        refine s_aald (kd := 0) C y28 ⟨_, rfl⟩ (by omega) dX9_image_23 ?_
        rw [show z16.toNatClampNeg = 2 by unfold Int32.toNatClampNeg; omega]
        refine s_aload_n C dX9_image_24 rfl ?_
        refine s_getr (k := 2) (j := 27) C y0 fw_X9_23 rfl dX9_image_25 ?_
        refine s_iload_n C dX9_image_28 rfl ?_
        refine s_aald (kd := 0) C y27 ⟨_, rfl⟩ (by omega) dX9_image_29 ?_
        rw [show z16.toNatClampNeg = 2 by unfold Int32.toNatClampNeg; omega]
        refine s_callVV (st := []) C (c_X0_copyFrom_36 l ad τ14  hXτ14 ) cv_X9_329 y36 rfl rfl rfl ⟨by decide, by decide⟩ (Nat.le_of_ble_eq_true rfl) dX9_image_30 ?_
        intro τ20 h21
        have hXτ20 := h21.1
        have hRτ20 := h21.2.2
        refine s_iinc C dX9_image_33 rfl (by decide) rfl (by decide) (by omega) (fun z22 tz22 => ?_)
        show WP E ad 36 [some (.ref (ad 0)), some (.int z22)] [] τ20
        refine s_goto (tgt := 13) C dX9_image_36 (by decide) ?_
        refine s_iload_n C dX9_image_13 rfl ?_
        refine s_iconst C dX9_image_14 (by decide) (fun z23 tz23 => ?_)
        refine s_icmp_ge (tgt := 39) C dX9_image_15 (by decide) (fun q24 => ?_) (fun q24 => ?_)
        · refine s_aload_n C dX9_image_39 rfl ?_
          refine s_iconst C dX9_image_40 (by decide) (fun z25 tz25 => ?_)
          refine s_putz (k := 10) C y0 fw_X9_49 fp_8_10 rfl (by omega) dX9_image_41 ?_
          refine s_aload_n C dX9_image_44 rfl ?_
          refine s_getr (k := 0) (j := 1) C y0 fw_X9_12 rfl dX9_image_45 ?_
          refine s_get (k := 1) (x := (τ20.1 1 1)) C y1 fw_X9_138 rfl rfl dX9_image_48 ?_
          exact s_iret C X dX9_image_51 ⟨hXτ20, (Fr.sV (Fr.tr (Fr.tr (Fr.tr (Fr.tr Fr.rf (Fr.mo h3.2.1 (by decide) (by decide))) (Fr.mo h9.2.1 (by decide) (by decide))) (Fr.mo h15.2.1 (by decide) (by decide))) (Fr.mo h21.2.1 (by decide) (by decide))) (Or.inr (by decide))), ((h21.2.1).f 14 0 (by decide) (by decide)).trans (((h15.2.1).f 14 0 (by decide) (by decide)).trans (((h9.2.1).f 14 0 (by decide) (by decide)).trans (hRτ2.1))), ((h21.2.1).a 15 (by decide) (by decide)).trans (((h15.2.1).a 15 (by decide) (by decide)).trans (((h9.2.1).a 15 (by decide) (by decide)).trans (hRτ2.2.1))), (by show Int32.toInt z25 = 1; omega), (((h21.2.1).f 34 0 (by decide) (by decide)).trans (((h15.2.1).f 34 0 (by decide) (by decide)).trans (hRτ8.trans ((h3.2.1).f 31 0 (by decide) (by decide))))), (((h21.2.1).f 35 0 (by decide) (by decide)).trans (hRτ14.trans (((h9.2.1).f 32 0 (by decide) (by decide)).trans ((h3.2.1).f 32 0 (by decide) (by decide))))), (hRτ20.trans (((h15.2.1).f 33 0 (by decide) (by decide)).trans (((h9.2.1).f 33 0 (by decide) (by decide)).trans ((h3.2.1).f 33 0 (by decide) (by decide)))))⟩
        · omega
set_option maxRecDepth 100000 in
theorem f_X9_undo (l : Launch) (ad : Nat → Nat) (σ : Sg)  (hX : IX σ.1)  : Mt l yX9_undo cX9_undo 2 (some .int) 2 ad σ [.ref (ad 0)] (oI (fun r τ => IX τ.1 ∧ Fr [2, 3, 4, 5, 6, 7, 8, 9, 10, 11, 12, 13, 43, 44, 45] [(1, 0), (1, 1), (1, 2), (31, 0), (31, 1), (32, 0), (32, 1), (33, 0), (33, 1), (61, 1), (37, 3), (38, 3), (39, 3)] σ τ ∧ (((σ.1 0 10).toInt = 0 ∧ τ.1 1 0 = σ.1 1 0 ∧ τ.1 2 = σ.1 2) ∨ (¬ (σ.1 0 10).toInt = 0 ∧ τ.1 1 0 = σ.1 14 0 ∧ τ.1 2 = σ.1 15)) ∧ (((σ.1 0 10).toInt = 0 → τ.1 31 0 = σ.1 31 0 ∧ τ.1 32 0 = σ.1 32 0 ∧ τ.1 33 0 = σ.1 33 0) ∧ (¬ (σ.1 0 10).toInt = 0 → τ.1 31 0 = σ.1 34 0 ∧ τ.1 32 0 = σ.1 35 0 ∧ τ.1 33 0 = σ.1 36 0)))) := by
  refine Mt_intro (by decide +kernel) (by simp [lg_sl, Value.category]) (fun E C X => ?_)
  show WP E ad 0 [some (.ref (ad 0)), none] [] σ
  refine s_aload_n C dX9_undo_0 rfl ?_
  refine s_get (k := 10) (x := (σ.1 0 10)) C y0 fw_X9_49 rfl rfl dX9_undo_1 ?_
  refine s_if_ne (tgt := 10) C dX9_undo_4 (by decide) (fun q1 => ?_) (fun q1 => ?_)
  · refine s_aload_n C dX9_undo_10 rfl ?_
    refine s_getr (k := 0) (j := 1) C y0 fw_X9_12 rfl dX9_undo_11 ?_
    refine s_aload_n C dX9_undo_14 rfl ?_
    refine s_getr (k := 1) (j := 14) C y0 fw_X9_18 rfl dX9_undo_15 ?_
    refine s_callVV (st := []) C (c_X5_copyFrom_1 l ad σ  hX ) cv_X9_326 y1 rfl rfl rfl ⟨by decide, by decide⟩ (Nat.le_of_ble_eq_true rfl) dX9_undo_18 ?_
    intro τ3 h4
    have hXτ3 := h4.1
    have hRτ3 := h4.2.2
    refine s_iconst C dX9_undo_21 (by decide) (fun z5 tz5 => ?_)
    refine s_istore_n C dX9_undo_22 (by decide) (Nat.le_of_ble_eq_true rfl) rfl ?_
    show WP E ad 23 [some (.ref (ad 0)), some (.int z5)] [] τ3
    refine s_iload_n C dX9_undo_23 rfl ?_
    refine s_iconst C dX9_undo_24 (by decide) (fun z6 tz6 => ?_)
    refine s_icmp_ge (tgt := 49) C dX9_undo_25 (by decide) (fun q7 => ?_) (fun q7 => ?_)
    · omega
    · refine s_aload_n C dX9_undo_28 rfl ?_
      refine s_getr (k := 2) (j := 27) C y0 fw_X9_23 rfl dX9_undo_29 ?_
      refine s_iload_n C dX9_undo_32 rfl ?_
      refine s_aald (kd := 0) C y27 ⟨_, rfl⟩ (by omega) dX9_undo_33 ?_
      rw [show z5.toNatClampNeg = 0 by unfold Int32.toNatClampNeg; omega]
      refine s_aload_n C dX9_undo_34 rfl ?_
      refine s_getr (k := 3) (j := 28) C y0 fw_X9_27 rfl dX9_undo_35 ?_
      refine s_iload_n C dX9_undo_38 rfl ?_
      refine s_aald (kd := 0) C y28 ⟨_, rfl⟩ (by omega) dX9_undo_39 ?_
      rw [show z5.toNatClampNeg = 0 by unfold Int32.toNatClampNeg; omega]
      refine s_callVV (st := []) C (c_X0_copyFrom_31 l ad τ3  hXτ3 ) cv_X9_329 y31 rfl rfl rfl ⟨by decide, by decide⟩ (Nat.le_of_ble_eq_true rfl) dX9_undo_40 ?_
      intro τ9 h10
      have hXτ9 := h10.1
      have hRτ9 := h10.2.2
      refine s_iinc C dX9_undo_43 rfl (by decide) rfl (by decide) (by omega) (fun z11 tz11 => ?_)
      show WP E ad 46 [some (.ref (ad 0)), some (.int z11)] [] τ9
      refine s_goto (tgt := 23) C dX9_undo_46 (by decide) ?_
      refine s_iload_n C dX9_undo_23 rfl ?_
      refine s_iconst C dX9_undo_24 (by decide) (fun z12 tz12 => ?_)
      refine s_icmp_ge (tgt := 49) C dX9_undo_25 (by decide) (fun q13 => ?_) (fun q13 => ?_)
      · omega
      · refine s_aload_n C dX9_undo_28 rfl ?_
        refine s_getr (k := 2) (j := 27) C y0 fw_X9_23 rfl dX9_undo_29 ?_
        refine s_iload_n C dX9_undo_32 rfl ?_
        refine s_aald (kd := 0) C y27 ⟨_, rfl⟩ (by omega) dX9_undo_33 ?_
        rw [show z11.toNatClampNeg = 1 by unfold Int32.toNatClampNeg; omega]
        refine s_aload_n C dX9_undo_34 rfl ?_
        refine s_getr (k := 3) (j := 28) C y0 fw_X9_27 rfl dX9_undo_35 ?_
        refine s_iload_n C dX9_undo_38 rfl ?_
        refine s_aald (kd := 0) C y28 ⟨_, rfl⟩ (by omega) dX9_undo_39 ?_
        rw [show z11.toNatClampNeg = 1 by unfold Int32.toNatClampNeg; omega]
        refine s_callVV (st := []) C (c_X0_copyFrom_32 l ad τ9  hXτ9 ) cv_X9_329 y32 rfl rfl rfl ⟨by decide, by decide⟩ (Nat.le_of_ble_eq_true rfl) dX9_undo_40 ?_
        intro τ15 h16
        have hXτ15 := h16.1
        have hRτ15 := h16.2.2
        refine s_iinc C dX9_undo_43 rfl (by decide) rfl (by decide) (by omega) (fun z17 tz17 => ?_)
        show WP E ad 46 [some (.ref (ad 0)), some (.int z17)] [] τ15
        refine s_goto (tgt := 23) C dX9_undo_46 (by decide) ?_
        refine s_iload_n C dX9_undo_23 rfl ?_
        refine s_iconst C dX9_undo_24 (by decide) (fun z18 tz18 => ?_)
        refine s_icmp_ge (tgt := 49) C dX9_undo_25 (by decide) (fun q19 => ?_) (fun q19 => ?_)
        · omega
        · refine s_aload_n C dX9_undo_28 rfl ?_
          refine s_getr (k := 2) (j := 27) C y0 fw_X9_23 rfl dX9_undo_29 ?_
          refine s_iload_n C dX9_undo_32 rfl ?_
          refine s_aald (kd := 0) C y27 ⟨_, rfl⟩ (by omega) dX9_undo_33 ?_
          rw [show z17.toNatClampNeg = 2 by unfold Int32.toNatClampNeg; omega]
          refine s_aload_n C dX9_undo_34 rfl ?_
          refine s_getr (k := 3) (j := 28) C y0 fw_X9_27 rfl dX9_undo_35 ?_
          refine s_iload_n C dX9_undo_38 rfl ?_
          refine s_aald (kd := 0) C y28 ⟨_, rfl⟩ (by omega) dX9_undo_39 ?_
          rw [show z17.toNatClampNeg = 2 by unfold Int32.toNatClampNeg; omega]
          refine s_callVV (st := []) C (c_X0_copyFrom_33 l ad τ15  hXτ15 ) cv_X9_329 y33 rfl rfl rfl ⟨by decide, by decide⟩ (Nat.le_of_ble_eq_true rfl) dX9_undo_40 ?_
          intro τ21 h22
          have hXτ21 := h22.1
          have hRτ21 := h22.2.2
          refine s_iinc C dX9_undo_43 rfl (by decide) rfl (by decide) (by omega) (fun z23 tz23 => ?_)
          show WP E ad 46 [some (.ref (ad 0)), some (.int z23)] [] τ21
          refine s_goto (tgt := 23) C dX9_undo_46 (by decide) ?_
          refine s_iload_n C dX9_undo_23 rfl ?_
          refine s_iconst C dX9_undo_24 (by decide) (fun z24 tz24 => ?_)
          refine s_icmp_ge (tgt := 49) C dX9_undo_25 (by decide) (fun q25 => ?_) (fun q25 => ?_)
          · refine s_aload_n C dX9_undo_49 rfl ?_
            refine s_callVV (st := []) C (c_X9_noteChange l ad τ21  hXτ21 ) cv_X9_94 y0 rfl rfl rfl ⟨by decide, by decide⟩ (Nat.le_of_ble_eq_true rfl) dX9_undo_50 ?_
            intro τ27 h28
            have hXτ27 := h28.1
            have hRτ27 := h28.2.2
            refine s_aload_n C dX9_undo_53 rfl ?_
            refine s_getr (k := 0) (j := 1) C y0 fw_X9_12 rfl dX9_undo_54 ?_
            refine s_get (k := 1) (x := (τ27.1 1 1)) C y1 fw_X9_138 rfl rfl dX9_undo_57 ?_
            exact s_iret C X dX9_undo_60 ⟨hXτ27, (Fr.tr (Fr.tr (Fr.tr (Fr.tr (Fr.tr Fr.rf (Fr.mo h4.2.1 (by decide) (by decide))) (Fr.mo h10.2.1 (by decide) (by decide))) (Fr.mo h16.2.1 (by decide) (by decide))) (Fr.mo h22.2.1 (by decide) (by decide))) (Fr.mo h28.2.1 (by decide) (by decide))), Or.inr ⟨by omega, ((h28.2.1).f 1 0 (by decide) (by decide)).trans (((h22.2.1).f 1 0 (by decide) (by decide)).trans (((h16.2.1).f 1 0 (by decide) (by decide)).trans (((h10.2.1).f 1 0 (by decide) (by decide)).trans (hRτ3.1)))), ((h28.2.1).a 2 (by decide) (by decide)).trans (((h22.2.1).a 2 (by decide) (by decide)).trans (((h16.2.1).a 2 (by decide) (by decide)).trans (((h10.2.1).a 2 (by decide) (by decide)).trans (hRτ3.2.1))))⟩, (fun q => by omega), fun _ => ⟨(((h28.2.1).f 31 0 (by decide) (by decide)).trans (((h22.2.1).f 31 0 (by decide) (by decide)).trans (((h16.2.1).f 31 0 (by decide) (by decide)).trans (hRτ9.trans ((h4.2.1).f 34 0 (by decide) (by decide)))))), (((h28.2.1).f 32 0 (by decide) (by decide)).trans (((h22.2.1).f 32 0 (by decide) (by decide)).trans (hRτ15.trans (((h10.2.1).f 35 0 (by decide) (by decide)).trans ((h4.2.1).f 35 0 (by decide) (by decide)))))), (((h28.2.1).f 33 0 (by decide) (by decide)).trans (hRτ21.trans (((h16.2.1).f 36 0 (by decide) (by decide)).trans (((h10.2.1).f 36 0 (by decide) (by decide)).trans ((h4.2.1).f 36 0 (by decide) (by decide))))))⟩⟩
          · omega
  · refine s_bipush C dX9_undo_7 (by decide) (fun z29 tz29 => ?_)
    exact s_iret C X dX9_undo_9 ⟨hX, Fr.rf, Or.inl ⟨by omega, rfl, rfl⟩, (fun _ => ⟨rfl, rfl, rfl⟩), fun q => by omega⟩
set_option maxRecDepth 100000 in
theorem f2_X9_read (l : Launch) (ad : Nat → Nat) (σ : Sg) (c : Int32) (hX : IX σ.1) (t : Nat → Int32) (n : Nat) (pr : Int) (ht : σ.1 67 = t) (hn : (σ.1 66 0).toInt = n) (hp : (σ.1 1 0).toInt = pr) : MtN (.methodLinkNest RX9 239 yX1_readCondition "RunCuts") l yX9_read cX9_read 4 (some .int) 22 ad σ [.ref (ad 0), .int c] (oI (fun r τ => IX τ.1 ∧ Fr [69, 43, 44, 45] [(66, 0), (66, 1), (68, 2), (31, 0), (31, 1), (32, 0), (32, 1), (33, 0), (33, 1), (37, 3), (38, 3), (39, 3)] σ τ ∧ (((0 ≤ c.toInt ∧ c.toInt ≤ 2) ∧ (τ.1 66 0).toInt = 0) ∨ (¬ (0 ≤ c.toInt ∧ c.toInt ≤ 2) ∧ r.toInt = -1 ∧ τ.1 66 0 = σ.1 66 0)) ∧ ((0 ≤ c.toInt ∧ c.toInt ≤ 2 → r.toInt = rdA (Au pr t n 0 [] 0) n) ∧ (¬ (0 ≤ c.toInt ∧ c.toInt ≤ 2) → r.toInt = -1)) ∧ RdX σ.1 τ.1 c r)) := by
  refine MtN_intro (by decide +kernel) (by simp [lg_sl, Value.category]) (fun E C X hN => ?_)
  show WP E ad 0 [some (.ref (ad 0)), some (.int c), none, none] [] σ
  refine s_iload_n C dX9_read_0 rfl ?_
  refine s_callSI (st := []) C (c_X9_isCondition l ad σ c ) cv_X9_233 rfl rfl ⟨by decide, by decide⟩ (Nat.le_of_ble_eq_true rfl) dX9_read_1 ?_
  intro r1 τ2 h3
  obtain ⟨eh3, h3⟩ := h3; replace eh3 := eh3.symm; subst eh3
  refine s_if_ne (tgt := 9) C dX9_read_4 (by decide) (fun q4 => ?_) (fun q4 => ?_)
  · refine s_aload_n C dX9_read_9 rfl ?_
    refine s_getr (k := 8) (j := 68) C y0 fw_X9_67 rfl dX9_read_10 ?_
    refine s_callVV (st := []) C (f_begin l ad σ hX) cv_X9_236 y68 rfl rfl rfl ⟨by decide, by decide⟩ (Nat.le_of_ble_eq_true rfl) dX9_read_13 ?_
    intro τ6 h7
    have hXτ6 := h7.1
    have hbτ6 := h7.2.2
    have pzτ6 : pl τ6.1 = 0 := by unfold pl; omega
    have hSτ6 : TS t n pr τ6.1 := ⟨(h7.2.1.a 67 (by decide) (by decide)).trans ht, (congrArg Int32.toInt (h7.2.1.f 66 0 (by decide) (by decide))).trans hn, (congrArg Int32.toInt (h7.2.1.f 1 0 (by decide) (by decide))).trans hp, (by rw [pzτ6]; omega), (by omega)⟩
    refine s_aload_n C dX9_read_16 rfl ?_
    refine s_getr (k := 8) (j := 68) C y0 fw_X9_67 rfl dX9_read_17 ?_
    refine s_iconst C dX9_read_20 (by decide) (fun z8 tz8 => ?_)
    refine s_callNI (st := []) C hN (f_readCondition_0 l ad τ6 z8 hXτ6 t n pr hSτ6 (by omega)) vn_read y68 rfl rfl rfl ⟨by decide, by decide⟩ (Nat.le_of_ble_eq_true rfl) dX9_read_21 ?_
    intro r9 τ10 h11
    have hXτ10 := h11.1
    have hSτ10 := h11.2.2.1
    have bh11 := h11.2.2.2.1
    have pτ10 : pl τ10.1 ≤ n := hSτ10.2.2.2.2
    have peτ10 := hSτ10.2.2.2.1
    have neτ10 := hSτ10.2.1
    have ah11 := h11.2.2.2.2 [] rfl rfl
    rw [pzτ6] at ah11
    have tpτ10 := hXτ10.tp
    refine s_if_eq (tgt := 41) C dX9_read_24 (by decide) (fun q12 => ?_) (fun q12 => ?_)
    · have hF : Au pr t n 0 [] 0 = pl τ10.1 := ah11.2 (by omega)
      refine s_iconst C dX9_read_41 (by decide) (fun z13 tz13 => ?_)
      refine s_istore_n C dX9_read_42 (by decide) (Nat.le_of_ble_eq_true rfl) rfl ?_
      show WP E ad 43 [some (.ref (ad 0)), some (.int c), some (.int z13), none] [] τ10
      refine s_aload_n C dX9_read_43 rfl ?_
      refine s_getr (k := 7) (j := 66) C y0 fw_X9_45 rfl dX9_read_44 ?_
      refine s_get (k := 1) (x := (τ10.1 66 1)) C y66 fw_X9_246 rfl rfl dX9_read_47 ?_
      refine s_istore_n C dX9_read_50 (by decide) (Nat.le_of_ble_eq_true rfl) rfl ?_
      show WP E ad 51 [some (.ref (ad 0)), some (.int c), some (.int z13), some (.int (τ10.1 66 1))] [] τ10
      refine s_aload_n C dX9_read_51 rfl ?_
      refine s_getr (k := 7) (j := 66) C y0 fw_X9_45 rfl dX9_read_52 ?_
      refine s_callVV (st := []) C (c_X8_clear l ad τ10  hXτ10 ) cv_X9_249 y66 rfl rfl rfl ⟨by decide, by decide⟩ (Nat.le_of_ble_eq_true rfl) dX9_read_55 ?_
      intro τ15 h16
      have hXτ15 := h16.1
      have hRτ15 := h16.2.2
      have tpτ15 := hXτ15.tp
      refine s_iload_n C dX9_read_58 rfl ?_
      refine s_if_ne (tgt := 67) C dX9_read_59 (by decide) (fun q17 => ?_) (fun q17 => ?_)
      · omega
      · refine s_bipush C dX9_read_62 (by decide) (fun z18 tz18 => ?_)
        refine s_iload_n C dX9_read_64 rfl ?_
        refine s_isub C dX9_read_65 (by omega) (fun z19 tz19 => ?_)
        exact s_iret C X dX9_read_66 ⟨hXτ15, (Fr.tr (Fr.tr (Fr.tr Fr.rf (Fr.mo h7.2.1 (by decide) (by decide))) (Fr.mo h11.2.1 (by decide) (by decide))) (Fr.mo h16.2.1 (by decide) (by decide))), Or.inl ⟨by omega, hRτ15.1⟩, ⟨(fun _ => by unfold rdA; rw [hF, if_neg (by omega)]; omega), fun q => by omega⟩, ⟨⟨(fun q => by omega), fun _ => (show Fr [69] [(66, 0), (66, 1), (68, 2)] σ τ15 from (Fr.tr (Fr.tr (Fr.tr Fr.rf (Fr.mo h7.2.1 (by decide) (by decide))) (Fr.mo h11.2.1 (by decide) (by decide))) (Fr.mo h16.2.1 (by decide) (by decide)))).f 31 0 (by decide) (by decide)⟩, ⟨(fun q => by omega), fun _ => (show Fr [69] [(66, 0), (66, 1), (68, 2)] σ τ15 from (Fr.tr (Fr.tr (Fr.tr Fr.rf (Fr.mo h7.2.1 (by decide) (by decide))) (Fr.mo h11.2.1 (by decide) (by decide))) (Fr.mo h16.2.1 (by decide) (by decide)))).f 32 0 (by decide) (by decide)⟩, ⟨(fun q => by omega), fun _ => (show Fr [69] [(66, 0), (66, 1), (68, 2)] σ τ15 from (Fr.tr (Fr.tr (Fr.tr Fr.rf (Fr.mo h7.2.1 (by decide) (by decide))) (Fr.mo h11.2.1 (by decide) (by decide))) (Fr.mo h16.2.1 (by decide) (by decide)))).f 33 0 (by decide) (by decide)⟩⟩⟩
    · have q9 := ah11.1 (by omega)
      refine s_aload_n C dX9_read_27 rfl ?_
      refine s_getr (k := 7) (j := 66) C y0 fw_X9_45 rfl dX9_read_28 ?_
      refine s_callVI (st := []) C (f_isAtEnd l ad τ10) cv_X9_242 y66 rfl rfl rfl ⟨by decide, by decide⟩ (Nat.le_of_ble_eq_true rfl) dX9_read_31 ?_
      intro r20 τ21 h22
      obtain ⟨eh22, h22⟩ := h22; replace eh22 := eh22.symm; subst eh22
      refine s_if_eq (tgt := 41) C dX9_read_34 (by decide) (fun q23 => ?_) (fun q23 => ?_)
      · have hF : Au pr t n 0 [] 0 = pl τ10.1 := by rw [q9.1]; exact A_stop3 (by omega) q9.2.2 (Or.inr (Or.inr (by simp))) (Or.inl (by omega))
        refine s_iconst C dX9_read_41 (by decide) (fun z24 tz24 => ?_)
        refine s_istore_n C dX9_read_42 (by decide) (Nat.le_of_ble_eq_true rfl) rfl ?_
        show WP E ad 43 [some (.ref (ad 0)), some (.int c), some (.int z24), none] [] τ10
        refine s_aload_n C dX9_read_43 rfl ?_
        refine s_getr (k := 7) (j := 66) C y0 fw_X9_45 rfl dX9_read_44 ?_
        refine s_get (k := 1) (x := (τ10.1 66 1)) C y66 fw_X9_246 rfl rfl dX9_read_47 ?_
        refine s_istore_n C dX9_read_50 (by decide) (Nat.le_of_ble_eq_true rfl) rfl ?_
        show WP E ad 51 [some (.ref (ad 0)), some (.int c), some (.int z24), some (.int (τ10.1 66 1))] [] τ10
        refine s_aload_n C dX9_read_51 rfl ?_
        refine s_getr (k := 7) (j := 66) C y0 fw_X9_45 rfl dX9_read_52 ?_
        refine s_callVV (st := []) C (c_X8_clear l ad τ10  hXτ10 ) cv_X9_249 y66 rfl rfl rfl ⟨by decide, by decide⟩ (Nat.le_of_ble_eq_true rfl) dX9_read_55 ?_
        intro τ26 h27
        have hXτ26 := h27.1
        have hRτ26 := h27.2.2
        have tpτ26 := hXτ26.tp
        refine s_iload_n C dX9_read_58 rfl ?_
        refine s_if_ne (tgt := 67) C dX9_read_59 (by decide) (fun q28 => ?_) (fun q28 => ?_)
        · omega
        · refine s_bipush C dX9_read_62 (by decide) (fun z29 tz29 => ?_)
          refine s_iload_n C dX9_read_64 rfl ?_
          refine s_isub C dX9_read_65 (by omega) (fun z30 tz30 => ?_)
          exact s_iret C X dX9_read_66 ⟨hXτ26, (Fr.tr (Fr.tr (Fr.tr Fr.rf (Fr.mo h7.2.1 (by decide) (by decide))) (Fr.mo h11.2.1 (by decide) (by decide))) (Fr.mo h27.2.1 (by decide) (by decide))), Or.inl ⟨by omega, hRτ26.1⟩, ⟨(fun _ => by unfold rdA; rw [hF, if_neg (by omega)]; omega), fun q => by omega⟩, ⟨⟨(fun q => by omega), fun _ => (show Fr [69] [(66, 0), (66, 1), (68, 2)] σ τ26 from (Fr.tr (Fr.tr (Fr.tr Fr.rf (Fr.mo h7.2.1 (by decide) (by decide))) (Fr.mo h11.2.1 (by decide) (by decide))) (Fr.mo h27.2.1 (by decide) (by decide)))).f 31 0 (by decide) (by decide)⟩, ⟨(fun q => by omega), fun _ => (show Fr [69] [(66, 0), (66, 1), (68, 2)] σ τ26 from (Fr.tr (Fr.tr (Fr.tr Fr.rf (Fr.mo h7.2.1 (by decide) (by decide))) (Fr.mo h11.2.1 (by decide) (by decide))) (Fr.mo h27.2.1 (by decide) (by decide)))).f 32 0 (by decide) (by decide)⟩, ⟨(fun q => by omega), fun _ => (show Fr [69] [(66, 0), (66, 1), (68, 2)] σ τ26 from (Fr.tr (Fr.tr (Fr.tr Fr.rf (Fr.mo h7.2.1 (by decide) (by decide))) (Fr.mo h11.2.1 (by decide) (by decide))) (Fr.mo h27.2.1 (by decide) (by decide)))).f 33 0 (by decide) (by decide)⟩⟩⟩
      · have hF : Au pr t n 0 [] 0 = -1 := by rw [q9.1, Au_end (by omega)]; exact if_neg (by simp)
        refine s_iconst C dX9_read_37 (by decide) (fun z31 tz31 => ?_)
        refine s_goto (tgt := 42) C dX9_read_38 (by decide) ?_
        refine s_istore_n C dX9_read_42 (by decide) (Nat.le_of_ble_eq_true rfl) rfl ?_
        show WP E ad 43 [some (.ref (ad 0)), some (.int c), some (.int z31), none] [] τ10
        refine s_aload_n C dX9_read_43 rfl ?_
        refine s_getr (k := 7) (j := 66) C y0 fw_X9_45 rfl dX9_read_44 ?_
        refine s_get (k := 1) (x := (τ10.1 66 1)) C y66 fw_X9_246 rfl rfl dX9_read_47 ?_
        refine s_istore_n C dX9_read_50 (by decide) (Nat.le_of_ble_eq_true rfl) rfl ?_
        show WP E ad 51 [some (.ref (ad 0)), some (.int c), some (.int z31), some (.int (τ10.1 66 1))] [] τ10
        refine s_aload_n C dX9_read_51 rfl ?_
        refine s_getr (k := 7) (j := 66) C y0 fw_X9_45 rfl dX9_read_52 ?_
        refine s_callVV (st := []) C (c_X8_clear l ad τ10  hXτ10 ) cv_X9_249 y66 rfl rfl rfl ⟨by decide, by decide⟩ (Nat.le_of_ble_eq_true rfl) dX9_read_55 ?_
        intro τ33 h34
        have hXτ33 := h34.1
        have hRτ33 := h34.2.2
        have tpτ33 := hXτ33.tp
        refine s_iload_n C dX9_read_58 rfl ?_
        refine s_if_ne (tgt := 67) C dX9_read_59 (by decide) (fun q35 => ?_) (fun q35 => ?_)
        · obtain hc36 | hc36 | hc36 : c.toInt = 0 ∨ c.toInt = 1 ∨ c.toInt = 2 := by omega
          · have hnhc36 : c.toNatClampNeg = 0 := by unfold Int32.toNatClampNeg; omega
            refine s_aload_n C dX9_read_67 rfl ?_
            refine s_getr (k := 8) (j := 68) C y0 fw_X9_67 rfl dX9_read_68 ?_
            refine s_aload_n C dX9_read_71 rfl ?_
            refine s_getr (k := 2) (j := 27) C y0 fw_X9_23 rfl dX9_read_72 ?_
            refine s_iload_n C dX9_read_75 rfl ?_
            refine s_aald (kd := 0) C y27 ⟨_, rfl⟩ (by omega) dX9_read_76 ?_
            rw [show c.toNatClampNeg = 0 by unfold Int32.toNatClampNeg; omega]
            refine s_callVV (st := []) C (c_X1_handTo_0 l ad τ33  hXτ33 ) cv_X9_252 y68 rfl rfl rfl ⟨by decide, by decide⟩ (Nat.le_of_ble_eq_true rfl) dX9_read_77 ?_
            intro τ38 h39
            have hXτ38 := h39.1
            have hRτ38 := h39.2.2
            have tpτ38 := hXτ38.tp
            refine s_aload_n C dX9_read_80 rfl ?_
            refine s_getr (k := 4) (j := 29) C y0 fw_X9_32 rfl dX9_read_81 ?_
            refine s_iload_n C dX9_read_84 rfl ?_
            refine s_aald (kd := 1) C y29 ⟨_, rfl⟩ (by omega) dX9_read_85 ?_
            rw [show c.toNatClampNeg = 0 by unfold Int32.toNatClampNeg; omega]
            refine s_iconst C dX9_read_86 (by decide) (fun z40 tz40 => ?_)
            refine s_putz (k := 3) C y37 fw_X9_256 fp_6_3 rfl (by omega) dX9_read_87 ?_
            refine s_iload_n C dX9_read_90 rfl ?_
            exact s_iret C X dX9_read_91 ⟨hXτ38, (Fr.sV (Fr.tr (Fr.tr (Fr.tr (Fr.tr Fr.rf (Fr.mo h7.2.1 (by decide) (by decide))) (Fr.mo h11.2.1 (by decide) (by decide))) (Fr.mo h34.2.1 (by decide) (by decide))) (Fr.mo h39.2.1 (by decide) (by decide))) (Or.inr (by decide))), Or.inl ⟨by omega, (congrArg Int32.toInt ((h39.2.1).f 66 0 (by decide) (by decide))).trans hRτ33.1⟩, ⟨(fun _ => by unfold rdA; rw [hF, if_pos (by omega)]; omega), fun q => by omega⟩, ⟨⟨(fun _ => by show Int32.toInt (τ38.1 31 0) = 1; exact hRτ38), fun q => absurd ⟨by omega, by omega⟩ q⟩, ⟨(fun q => by omega), fun _ => (show Fr [69, 43] [(66, 0), (66, 1), (68, 2), (31, 0), (31, 1), (37, 3), (38, 3), (39, 3)] σ (sV τ38 37 3 z40) from (Fr.sV (Fr.tr (Fr.tr (Fr.tr (Fr.tr Fr.rf (Fr.mo h7.2.1 (by decide) (by decide))) (Fr.mo h11.2.1 (by decide) (by decide))) (Fr.mo h34.2.1 (by decide) (by decide))) (Fr.mo h39.2.1 (by decide) (by decide))) (Or.inr (by decide)))).f 32 0 (by decide) (by decide)⟩, ⟨(fun q => by omega), fun _ => (show Fr [69, 43] [(66, 0), (66, 1), (68, 2), (31, 0), (31, 1), (37, 3), (38, 3), (39, 3)] σ (sV τ38 37 3 z40) from (Fr.sV (Fr.tr (Fr.tr (Fr.tr (Fr.tr Fr.rf (Fr.mo h7.2.1 (by decide) (by decide))) (Fr.mo h11.2.1 (by decide) (by decide))) (Fr.mo h34.2.1 (by decide) (by decide))) (Fr.mo h39.2.1 (by decide) (by decide))) (Or.inr (by decide)))).f 33 0 (by decide) (by decide)⟩⟩⟩
          · have hnhc36 : c.toNatClampNeg = 1 := by unfold Int32.toNatClampNeg; omega
            refine s_aload_n C dX9_read_67 rfl ?_
            refine s_getr (k := 8) (j := 68) C y0 fw_X9_67 rfl dX9_read_68 ?_
            refine s_aload_n C dX9_read_71 rfl ?_
            refine s_getr (k := 2) (j := 27) C y0 fw_X9_23 rfl dX9_read_72 ?_
            refine s_iload_n C dX9_read_75 rfl ?_
            refine s_aald (kd := 0) C y27 ⟨_, rfl⟩ (by omega) dX9_read_76 ?_
            rw [show c.toNatClampNeg = 1 by unfold Int32.toNatClampNeg; omega]
            refine s_callVV (st := []) C (c_X1_handTo_1 l ad τ33  hXτ33 ) cv_X9_252 y68 rfl rfl rfl ⟨by decide, by decide⟩ (Nat.le_of_ble_eq_true rfl) dX9_read_77 ?_
            intro τ42 h43
            have hXτ42 := h43.1
            have hRτ42 := h43.2.2
            have tpτ42 := hXτ42.tp
            refine s_aload_n C dX9_read_80 rfl ?_
            refine s_getr (k := 4) (j := 29) C y0 fw_X9_32 rfl dX9_read_81 ?_
            refine s_iload_n C dX9_read_84 rfl ?_
            refine s_aald (kd := 1) C y29 ⟨_, rfl⟩ (by omega) dX9_read_85 ?_
            rw [show c.toNatClampNeg = 1 by unfold Int32.toNatClampNeg; omega]
            refine s_iconst C dX9_read_86 (by decide) (fun z44 tz44 => ?_)
            refine s_putz (k := 3) C y38 fw_X9_256 fp_6_3 rfl (by omega) dX9_read_87 ?_
            refine s_iload_n C dX9_read_90 rfl ?_
            exact s_iret C X dX9_read_91 ⟨hXτ42, (Fr.sV (Fr.tr (Fr.tr (Fr.tr (Fr.tr Fr.rf (Fr.mo h7.2.1 (by decide) (by decide))) (Fr.mo h11.2.1 (by decide) (by decide))) (Fr.mo h34.2.1 (by decide) (by decide))) (Fr.mo h43.2.1 (by decide) (by decide))) (Or.inr (by decide))), Or.inl ⟨by omega, (congrArg Int32.toInt ((h43.2.1).f 66 0 (by decide) (by decide))).trans hRτ33.1⟩, ⟨(fun _ => by unfold rdA; rw [hF, if_pos (by omega)]; omega), fun q => by omega⟩, ⟨⟨(fun q => by omega), fun _ => (show Fr [69, 44] [(66, 0), (66, 1), (68, 2), (32, 0), (32, 1), (37, 3), (38, 3), (39, 3)] σ (sV τ42 38 3 z44) from (Fr.sV (Fr.tr (Fr.tr (Fr.tr (Fr.tr Fr.rf (Fr.mo h7.2.1 (by decide) (by decide))) (Fr.mo h11.2.1 (by decide) (by decide))) (Fr.mo h34.2.1 (by decide) (by decide))) (Fr.mo h43.2.1 (by decide) (by decide))) (Or.inr (by decide)))).f 31 0 (by decide) (by decide)⟩, ⟨(fun _ => by show Int32.toInt (τ42.1 32 0) = 1; exact hRτ42), fun q => absurd ⟨by omega, by omega⟩ q⟩, ⟨(fun q => by omega), fun _ => (show Fr [69, 44] [(66, 0), (66, 1), (68, 2), (32, 0), (32, 1), (37, 3), (38, 3), (39, 3)] σ (sV τ42 38 3 z44) from (Fr.sV (Fr.tr (Fr.tr (Fr.tr (Fr.tr Fr.rf (Fr.mo h7.2.1 (by decide) (by decide))) (Fr.mo h11.2.1 (by decide) (by decide))) (Fr.mo h34.2.1 (by decide) (by decide))) (Fr.mo h43.2.1 (by decide) (by decide))) (Or.inr (by decide)))).f 33 0 (by decide) (by decide)⟩⟩⟩
          · have hnhc36 : c.toNatClampNeg = 2 := by unfold Int32.toNatClampNeg; omega
            refine s_aload_n C dX9_read_67 rfl ?_
            refine s_getr (k := 8) (j := 68) C y0 fw_X9_67 rfl dX9_read_68 ?_
            refine s_aload_n C dX9_read_71 rfl ?_
            refine s_getr (k := 2) (j := 27) C y0 fw_X9_23 rfl dX9_read_72 ?_
            refine s_iload_n C dX9_read_75 rfl ?_
            refine s_aald (kd := 0) C y27 ⟨_, rfl⟩ (by omega) dX9_read_76 ?_
            rw [show c.toNatClampNeg = 2 by unfold Int32.toNatClampNeg; omega]
            refine s_callVV (st := []) C (c_X1_handTo_2 l ad τ33  hXτ33 ) cv_X9_252 y68 rfl rfl rfl ⟨by decide, by decide⟩ (Nat.le_of_ble_eq_true rfl) dX9_read_77 ?_
            intro τ46 h47
            have hXτ46 := h47.1
            have hRτ46 := h47.2.2
            have tpτ46 := hXτ46.tp
            refine s_aload_n C dX9_read_80 rfl ?_
            refine s_getr (k := 4) (j := 29) C y0 fw_X9_32 rfl dX9_read_81 ?_
            refine s_iload_n C dX9_read_84 rfl ?_
            refine s_aald (kd := 1) C y29 ⟨_, rfl⟩ (by omega) dX9_read_85 ?_
            rw [show c.toNatClampNeg = 2 by unfold Int32.toNatClampNeg; omega]
            refine s_iconst C dX9_read_86 (by decide) (fun z48 tz48 => ?_)
            refine s_putz (k := 3) C y39 fw_X9_256 fp_6_3 rfl (by omega) dX9_read_87 ?_
            refine s_iload_n C dX9_read_90 rfl ?_
            exact s_iret C X dX9_read_91 ⟨hXτ46, (Fr.sV (Fr.tr (Fr.tr (Fr.tr (Fr.tr Fr.rf (Fr.mo h7.2.1 (by decide) (by decide))) (Fr.mo h11.2.1 (by decide) (by decide))) (Fr.mo h34.2.1 (by decide) (by decide))) (Fr.mo h47.2.1 (by decide) (by decide))) (Or.inr (by decide))), Or.inl ⟨by omega, (congrArg Int32.toInt ((h47.2.1).f 66 0 (by decide) (by decide))).trans hRτ33.1⟩, ⟨(fun _ => by unfold rdA; rw [hF, if_pos (by omega)]; omega), fun q => by omega⟩, ⟨⟨(fun q => by omega), fun _ => (show Fr [69, 45] [(66, 0), (66, 1), (68, 2), (33, 0), (33, 1), (37, 3), (38, 3), (39, 3)] σ (sV τ46 39 3 z48) from (Fr.sV (Fr.tr (Fr.tr (Fr.tr (Fr.tr Fr.rf (Fr.mo h7.2.1 (by decide) (by decide))) (Fr.mo h11.2.1 (by decide) (by decide))) (Fr.mo h34.2.1 (by decide) (by decide))) (Fr.mo h47.2.1 (by decide) (by decide))) (Or.inr (by decide)))).f 31 0 (by decide) (by decide)⟩, ⟨(fun q => by omega), fun _ => (show Fr [69, 45] [(66, 0), (66, 1), (68, 2), (33, 0), (33, 1), (37, 3), (38, 3), (39, 3)] σ (sV τ46 39 3 z48) from (Fr.sV (Fr.tr (Fr.tr (Fr.tr (Fr.tr Fr.rf (Fr.mo h7.2.1 (by decide) (by decide))) (Fr.mo h11.2.1 (by decide) (by decide))) (Fr.mo h34.2.1 (by decide) (by decide))) (Fr.mo h47.2.1 (by decide) (by decide))) (Or.inr (by decide)))).f 32 0 (by decide) (by decide)⟩, ⟨(fun _ => by show Int32.toInt (τ46.1 33 0) = 1; exact hRτ46), fun q => absurd ⟨by omega, by omega⟩ q⟩⟩⟩
        · omega
  · refine s_iconst C dX9_read_7 (by decide) (fun z49 tz49 => ?_)
    exact s_iret C X dX9_read_8 ⟨hX, Fr.rf, Or.inr ⟨by omega, by omega, rfl⟩, ⟨fun q => by omega, fun _ => by omega⟩, ⟨⟨(fun q => by omega), fun _ => rfl⟩, ⟨(fun q => by omega), fun _ => rfl⟩, ⟨(fun q => by omega), fun _ => rfl⟩⟩⟩
