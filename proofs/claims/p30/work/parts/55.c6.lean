def lsA (a n : Int) : Int := if 0 ≤ a ∧ a ≤ 2 then (if 20 < n then -2 else if n < -1 then -14 else 1) else -1
theorem ix_grow {σ υ : Sg} (hX : IX σ.1) {p w m k : Int32} (hp : 0 ≤ p.toInt ∧ p.toInt ≤ 3) (hpp : p.toInt < (σ.1 1 0).toInt) (hf : (σ.1 3 p.toNatClampNeg).toInt < 5) (hF : Fr [3, 4, 5, 6, 7, 8, 9, 10, 11, 12, 13] [(1, 1), (1, 2)] σ υ) (hk : k.toInt = (σ.1 3 p.toNatClampNeg).toInt + 1) (e3 : υ.1 3 = upd (σ.1 3) p.toNatClampNeg k) (e4 : υ.1 4 = upd (σ.1 4) (σ.1 1 1).toNatClampNeg p) (e5 : υ.1 5 = upd (σ.1 5) (5 * p.toNatClampNeg + (σ.1 3 p.toNatClampNeg).toInt.toNat) w) (e7 : υ.1 7 = upd (σ.1 7) (5 * p.toNatClampNeg + (σ.1 3 p.toNatClampNeg).toInt.toNat) m) (t1 : (υ.1 1 1).toInt = (σ.1 1 1).toInt + 1)
    (hm : w.toInt = 2 → 0 ≤ m.toInt ∧ m.toInt ≤ 7) (hms : (υ.1 1 2).toInt = (σ.1 1 2).toInt + (if w.toInt = 1 then 1 else 0)) (hm8 : (υ.1 1 2).toInt ≤ 8) (hsn : ∀ j, 0 ≤ (υ.1 10 j).toInt ∧ (υ.1 10 j).toInt ≤ 3) (htk : ∀ j, -5 ≤ (υ.1 12 j).toInt ∧ (υ.1 12 j).toInt ≤ 3) (hold : ∀ j : Nat, (j : Int) < (σ.1 1 2).toInt → υ.1 10 j = σ.1 10 j ∧ υ.1 11 j = σ.1 11 j) (hnew : w.toInt = 1 → (υ.1 10 (σ.1 1 2).toInt.toNat).toInt = p.toInt ∧ (υ.1 11 (σ.1 1 2).toInt.toNat).toInt = k.toInt) : IX υ.1 := by
  refine IX.kRU hX hF ?_ (by decide) (by decide) (by decide)
  rw [hF.f 1 0 (by decide) (by decide), e3, e4, e5, e7]
  exact rc_grow hX.RU hp hpp hf t1 hk rfl hm hms hm8 hsn htk hold hnew
set_option maxRecDepth 100000 in
theorem c_X9_isValue (l : Launch) (ad : Nat → Nat) (σ : Sg) (c : Int32)  : Mt l yX9_isValue cX9_isValue 1 (some .boolean) 0 ad σ [.int c] (oI (fun r τ => τ = σ ∧ (r.toInt = 0 ∨ r.toInt = 1) ∧ (r.toInt = 1 ↔ (-99 ≤ c.toInt ∧ c.toInt ≤ 99)))) := by
  refine Mt_intro (by decide +kernel) (by simp [lg_sl, Value.category]) (fun E C X => ?_)
  show WP E ad 0 [some (.int c)] [] σ
  refine s_iload_n C dX9_isValue_0 rfl ?_
  refine s_bipush C dX9_isValue_1 (by decide) (fun z1 tz1 => ?_)
  refine s_icmp_lt (tgt := 16) C dX9_isValue_3 (by decide) (fun q2 => ?_) (fun q2 => ?_)
  · refine s_iconst C dX9_isValue_16 (by decide) (fun z3 tz3 => ?_)
    exact s_zret C (by omega) X dX9_isValue_17 ⟨rfl, by omega⟩
  · refine s_iload_n C dX9_isValue_6 rfl ?_
    refine s_bipush C dX9_isValue_7 (by decide) (fun z4 tz4 => ?_)
    refine s_icmp_gt (tgt := 16) C dX9_isValue_9 (by decide) (fun q5 => ?_) (fun q5 => ?_)
    · refine s_iconst C dX9_isValue_16 (by decide) (fun z6 tz6 => ?_)
      exact s_zret C (by omega) X dX9_isValue_17 ⟨rfl, by omega⟩
    · refine s_iconst C dX9_isValue_12 (by decide) (fun z7 tz7 => ?_)
      refine s_goto (tgt := 17) C dX9_isValue_13 (by decide) ?_
      exact s_zret C (by omega) X dX9_isValue_17 ⟨rfl, by omega⟩
set_option maxRecDepth 100000 in
theorem c_X9_isCondition (l : Launch) (ad : Nat → Nat) (σ : Sg) (c : Int32)  : Mt l yX9_isCondition cX9_isCondition 1 (some .boolean) 0 ad σ [.int c] (oI (fun r τ => τ = σ ∧ (r.toInt = 0 ∨ r.toInt = 1) ∧ (r.toInt = 1 ↔ (0 ≤ c.toInt ∧ c.toInt ≤ 2)))) := by
  refine Mt_intro (by decide +kernel) (by simp [lg_sl, Value.category]) (fun E C X => ?_)
  show WP E ad 0 [some (.int c)] [] σ
  refine s_iload_n C dX9_isCondition_0 rfl ?_
  refine s_if_lt (tgt := 13) C dX9_isCondition_1 (by decide) (fun q1 => ?_) (fun q1 => ?_)
  · refine s_iconst C dX9_isCondition_13 (by decide) (fun z2 tz2 => ?_)
    exact s_zret C (by omega) X dX9_isCondition_14 ⟨rfl, by omega⟩
  · refine s_iload_n C dX9_isCondition_4 rfl ?_
    refine s_iconst C dX9_isCondition_5 (by decide) (fun z3 tz3 => ?_)
    refine s_icmp_ge (tgt := 13) C dX9_isCondition_6 (by decide) (fun q4 => ?_) (fun q4 => ?_)
    · refine s_iconst C dX9_isCondition_13 (by decide) (fun z5 tz5 => ?_)
      exact s_zret C (by omega) X dX9_isCondition_14 ⟨rfl, by omega⟩
    · refine s_iconst C dX9_isCondition_9 (by decide) (fun z6 tz6 => ?_)
      refine s_goto (tgt := 14) C dX9_isCondition_10 (by decide) ?_
      exact s_zret C (by omega) X dX9_isCondition_14 ⟨rfl, by omega⟩
set_option maxRecDepth 100000 in
theorem c_X9_isList (l : Launch) (ad : Nat → Nat) (σ : Sg) (c : Int32)  : Mt l yX9_isList cX9_isList 1 (some .boolean) 0 ad σ [.int c] (oI (fun r τ => τ = σ ∧ (r.toInt = 0 ∨ r.toInt = 1) ∧ (r.toInt = 1 ↔ (0 ≤ c.toInt ∧ c.toInt ≤ 2)))) := by
  refine Mt_intro (by decide +kernel) (by simp [lg_sl, Value.category]) (fun E C X => ?_)
  show WP E ad 0 [some (.int c)] [] σ
  refine s_iload_n C dX9_isList_0 rfl ?_
  refine s_if_lt (tgt := 13) C dX9_isList_1 (by decide) (fun q1 => ?_) (fun q1 => ?_)
  · refine s_iconst C dX9_isList_13 (by decide) (fun z2 tz2 => ?_)
    exact s_zret C (by omega) X dX9_isList_14 ⟨rfl, by omega⟩
  · refine s_iload_n C dX9_isList_4 rfl ?_
    refine s_iconst C dX9_isList_5 (by decide) (fun z3 tz3 => ?_)
    refine s_icmp_ge (tgt := 13) C dX9_isList_6 (by decide) (fun q4 => ?_) (fun q4 => ?_)
    · refine s_iconst C dX9_isList_13 (by decide) (fun z5 tz5 => ?_)
      exact s_zret C (by omega) X dX9_isList_14 ⟨rfl, by omega⟩
    · refine s_iconst C dX9_isList_9 (by decide) (fun z6 tz6 => ?_)
      refine s_goto (tgt := 14) C dX9_isList_10 (by decide) ?_
      exact s_zret C (by omega) X dX9_isList_14 ⟨rfl, by omega⟩
set_option maxRecDepth 100000 in
theorem c_X9_noteValues (l : Launch) (ad : Nat → Nat) (σ : Sg)  (hX : IX σ.1)  : Mt l yX9_noteValues cX9_noteValues 2 none 0 ad σ [.ref (ad 0)] (oV (fun τ => IX τ.1 ∧ Fr [] [(37, 3), (38, 3), (39, 3)] σ τ ∧ True)) := by
  refine Mt_intro (by decide +kernel) (by simp [lg_sl, Value.category]) (fun E C X => ?_)
  show WP E ad 0 [some (.ref (ad 0)), none] [] σ
  refine s_iconst C dX9_noteValues_0 (by decide) (fun z1 tz1 => ?_)
  refine s_istore_n C dX9_noteValues_1 (by decide) (Nat.le_of_ble_eq_true rfl) rfl ?_
  show WP E ad 2 [some (.ref (ad 0)), some (.int z1)] [] σ
  refine s_iload_n C dX9_noteValues_2 rfl ?_
  refine s_iconst C dX9_noteValues_3 (by decide) (fun z2 tz2 => ?_)
  refine s_icmp_ge (tgt := 23) C dX9_noteValues_4 (by decide) (fun q3 => ?_) (fun q3 => ?_)
  · omega
  · refine s_aload_n C dX9_noteValues_7 rfl ?_
    refine s_getr (k := 4) (j := 29) C y0 fw_X9_32 rfl dX9_noteValues_8 ?_
    refine s_iload_n C dX9_noteValues_11 rfl ?_
    refine s_aald (kd := 1) C y29 ⟨_, rfl⟩ (by omega) dX9_noteValues_12 ?_
    rw [show z1.toNatClampNeg = 0 by unfold Int32.toNatClampNeg; omega]
    refine s_iconst C dX9_noteValues_13 (by decide) (fun z4 tz4 => ?_)
    refine s_putz (k := 3) C y37 fw_X9_256 fp_6_3 rfl (by omega) dX9_noteValues_14 ?_
    refine s_iinc C dX9_noteValues_17 rfl (by decide) rfl (by decide) (by omega) (fun z5 tz5 => ?_)
    show WP E ad 20 [some (.ref (ad 0)), some (.int z5)] [] (sV σ 37 3 z4)
    refine s_goto (tgt := 2) C dX9_noteValues_20 (by decide) ?_
    refine s_iload_n C dX9_noteValues_2 rfl ?_
    refine s_iconst C dX9_noteValues_3 (by decide) (fun z6 tz6 => ?_)
    refine s_icmp_ge (tgt := 23) C dX9_noteValues_4 (by decide) (fun q7 => ?_) (fun q7 => ?_)
    · omega
    · refine s_aload_n C dX9_noteValues_7 rfl ?_
      refine s_getr (k := 4) (j := 29) C y0 fw_X9_32 rfl dX9_noteValues_8 ?_
      refine s_iload_n C dX9_noteValues_11 rfl ?_
      refine s_aald (kd := 1) C y29 ⟨_, rfl⟩ (by omega) dX9_noteValues_12 ?_
      rw [show z5.toNatClampNeg = 1 by unfold Int32.toNatClampNeg; omega]
      refine s_iconst C dX9_noteValues_13 (by decide) (fun z8 tz8 => ?_)
      refine s_putz (k := 3) C y38 fw_X9_256 fp_6_3 rfl (by omega) dX9_noteValues_14 ?_
      refine s_iinc C dX9_noteValues_17 rfl (by decide) rfl (by decide) (by omega) (fun z9 tz9 => ?_)
      show WP E ad 20 [some (.ref (ad 0)), some (.int z9)] [] (sV (sV σ 37 3 z4) 38 3 z8)
      refine s_goto (tgt := 2) C dX9_noteValues_20 (by decide) ?_
      refine s_iload_n C dX9_noteValues_2 rfl ?_
      refine s_iconst C dX9_noteValues_3 (by decide) (fun z10 tz10 => ?_)
      refine s_icmp_ge (tgt := 23) C dX9_noteValues_4 (by decide) (fun q11 => ?_) (fun q11 => ?_)
      · omega
      · refine s_aload_n C dX9_noteValues_7 rfl ?_
        refine s_getr (k := 4) (j := 29) C y0 fw_X9_32 rfl dX9_noteValues_8 ?_
        refine s_iload_n C dX9_noteValues_11 rfl ?_
        refine s_aald (kd := 1) C y29 ⟨_, rfl⟩ (by omega) dX9_noteValues_12 ?_
        rw [show z9.toNatClampNeg = 2 by unfold Int32.toNatClampNeg; omega]
        refine s_iconst C dX9_noteValues_13 (by decide) (fun z12 tz12 => ?_)
        refine s_putz (k := 3) C y39 fw_X9_256 fp_6_3 rfl (by omega) dX9_noteValues_14 ?_
        refine s_iinc C dX9_noteValues_17 rfl (by decide) rfl (by decide) (by omega) (fun z13 tz13 => ?_)
        show WP E ad 20 [some (.ref (ad 0)), some (.int z13)] [] (sV (sV (sV σ 37 3 z4) 38 3 z8) 39 3 z12)
        refine s_goto (tgt := 2) C dX9_noteValues_20 (by decide) ?_
        refine s_iload_n C dX9_noteValues_2 rfl ?_
        refine s_iconst C dX9_noteValues_3 (by decide) (fun z14 tz14 => ?_)
        refine s_icmp_ge (tgt := 23) C dX9_noteValues_4 (by decide) (fun q15 => ?_) (fun q15 => ?_)
        · exact s_vret C X dX9_noteValues_23 ⟨hX, (Fr.sV (Fr.sV (Fr.sV Fr.rf (Or.inr (by decide))) (Or.inr (by decide))) (Or.inr (by decide))), trivial⟩
        · omega
set_option maxRecDepth 100000 in
theorem c_X9_noteChange (l : Launch) (ad : Nat → Nat) (σ : Sg)  (hX : IX σ.1)  : Mt l yX9_noteChange cX9_noteChange 1 none 1 ad σ [.ref (ad 0)] (oV (fun τ => IX τ.1 ∧ Fr [] [(37, 3), (38, 3), (39, 3), (61, 1)] σ τ ∧ True)) := by
  refine Mt_intro (by decide +kernel) (by simp [lg_sl, Value.category]) (fun E C X => ?_)
  show WP E ad 0 [some (.ref (ad 0))] [] σ
  refine s_aload_n C dX9_noteChange_0 rfl ?_
  refine s_getr (k := 6) (j := 61) C y0 fw_X9_58 rfl dX9_noteChange_1 ?_
  refine s_iconst C dX9_noteChange_4 (by decide) (fun z1 tz1 => ?_)
  refine s_putz (k := 1) C y61 fw_X9_340 fp_2_1 rfl (by omega) dX9_noteChange_5 ?_
  refine s_aload_n C dX9_noteChange_8 rfl ?_
  refine s_callVV (st := []) C (c_X9_noteValues l ad (sV σ 61 1 z1)  hX ) cv_X9_108 y0 rfl rfl rfl ⟨by decide, by decide⟩ (Nat.le_of_ble_eq_true rfl) dX9_noteChange_9 ?_
  intro τ3 h4
  have hXτ3 := h4.1
  have hRτ3 := h4.2.2
  exact s_vret C X dX9_noteChange_12 ⟨hXτ3, (Fr.tr (Fr.sV Fr.rf (Or.inr (by decide))) (Fr.mo h4.2.1 (by decide) (by decide))), trivial⟩
set_option maxRecDepth 100000 in
theorem c_X9_freshLattice (l : Launch) (ad : Nat → Nat) (σ : Sg) (hX : IX σ.1) : Mt l yX9_freshLattice cX9_freshLattice 1 (some (.object "RunCuts$Lattice")) 4 ad σ [.ref (ad 0)] (oR (fun r τ => r = ad 61 ∧ IX τ.1 ∧ Fr [62, 63] [(61, 1), (61, 2), (61, 5)] σ τ)) := by
  refine Mt_intro (by decide +kernel) (by simp [lg_sl, Value.category]) (fun E C X => ?_)
  show WP E ad 0 [some (.ref (ad 0))] [] σ
  refine s_aload_n C dX9_freshLattice_0 rfl ?_
  refine s_getr (k := 6) (j := 61) C y0 fw_X9_58 rfl dX9_freshLattice_1 ?_
  refine s_callVV (st := []) C (c_X2_refresh l ad σ  hX ) cv_X9_341 y61 rfl rfl rfl ⟨by decide, by decide⟩ (Nat.le_of_ble_eq_true rfl) dX9_freshLattice_4 ?_
  intro τ2 h3
  have hXτ2 := h3.1
  have hRτ2 := h3.2.2
  refine s_aload_n C dX9_freshLattice_7 rfl ?_
  refine s_getr (k := 6) (j := 61) C y0 fw_X9_58 rfl dX9_freshLattice_8 ?_
  exact s_aret C X dX9_freshLattice_11 ⟨rfl, hXτ2, (Fr.tr Fr.rf (Fr.mo h3.2.1 (by decide) (by decide)))⟩
set_option maxRecDepth 100000 in
theorem c_X9_hasCut (l : Launch) (ad : Nat → Nat) (σ : Sg) (i : Int32) (hX : IX σ.1)  : Mt l yX9_hasCut cX9_hasCut 2 (some .boolean) 5 ad σ [.ref (ad 0), .int i] (oI (fun r τ => IX τ.1 ∧ Fr [62, 63] [(61, 1), (61, 2), (61, 5)] σ τ ∧ (r.toInt = 0 ∨ r.toInt = 1) ∧ (r.toInt = 1 → (0 ≤ i.toInt ∧ i.toInt < (τ.1 61 2).toInt)))) := by
  refine Mt_intro (by decide +kernel) (by simp [lg_sl, Value.category]) (fun E C X => ?_)
  show WP E ad 0 [some (.ref (ad 0)), some (.int i)] [] σ
  refine s_iload_n C dX9_hasCut_0 rfl ?_
  refine s_if_lt (tgt := 19) C dX9_hasCut_1 (by decide) (fun q1 => ?_) (fun q1 => ?_)
  · refine s_iconst C dX9_hasCut_19 (by decide) (fun z2 tz2 => ?_)
    exact s_zret C (by omega) X dX9_hasCut_20 ⟨hX, Fr.rf, by omega, by omega⟩
  · refine s_iload_n C dX9_hasCut_4 rfl ?_
    refine s_aload_n C dX9_hasCut_5 rfl ?_
    refine s_callVR (st := [.int i]) C (c_X9_freshLattice l ad σ hX) cv_X9_187 y0 rfl rfl rfl ⟨by decide, by decide⟩ (Nat.le_of_ble_eq_true rfl) dX9_hasCut_6 ?_
    intro r3 τ4 h5
    obtain ⟨eh5, h5⟩ := h5; subst eh5
    have hXτ4 := h5.1
    have szτ4 := hXτ4.sz
    refine s_get (k := 2) (x := (τ4.1 61 2)) C y61 fw_X9_191 rfl rfl dX9_hasCut_9 ?_
    refine s_icmp_ge (tgt := 19) C dX9_hasCut_12 (by decide) (fun q6 => ?_) (fun q6 => ?_)
    · refine s_iconst C dX9_hasCut_19 (by decide) (fun z7 tz7 => ?_)
      exact s_zret C (by omega) X dX9_hasCut_20 ⟨hXτ4, (Fr.tr Fr.rf (Fr.mo h5.2 (by decide) (by decide))), by omega, by omega⟩
    · refine s_iconst C dX9_hasCut_15 (by decide) (fun z8 tz8 => ?_)
      refine s_goto (tgt := 20) C dX9_hasCut_16 (by decide) ?_
      exact s_zret C (by omega) X dX9_hasCut_20 ⟨hXτ4, (Fr.tr Fr.rf (Fr.mo h5.2 (by decide) (by decide))), by omega, by omega⟩
set_option maxRecDepth 100000 in
theorem c_X9_lackOf (l : Launch) (ad : Nat → Nat) (σ : Sg) (c f : Int32) : Mt l yX9_lackOf cX9_lackOf 3 (some .int) 1 ad σ [.ref (ad 0), .int c, .int f] (oI (fun r τ => τ = σ ∧ (r.toInt = 0 ∨ r.toInt = -1 ∨ r.toInt = -3) ∧ (r.toInt = 0 → (0 ≤ c.toInt ∧ c.toInt ≤ 2 ∧ ¬ f.toInt = 0)))) := by
  refine Mt_intro (by decide +kernel) (by simp [lg_sl, Value.category]) (fun E C X => ?_)
  show WP E ad 0 [some (.ref (ad 0)), some (.int c), some (.int f)] [] σ
  refine s_iload_n C dX9_lackOf_0 rfl ?_
  refine s_callSI (st := []) C (c_X9_isCondition l ad σ c ) cv_X9_233 rfl rfl ⟨by decide, by decide⟩ (Nat.le_of_ble_eq_true rfl) dX9_lackOf_1 ?_
  intro r1 τ2 h3
  obtain ⟨eh3, h3⟩ := h3; replace eh3 := eh3.symm; subst eh3
  refine s_if_eq (tgt := 11) C dX9_lackOf_4 (by decide) (fun q4 => ?_) (fun q4 => ?_)
  · refine s_iconst C dX9_lackOf_11 (by decide) (fun z5 tz5 => ?_)
    exact s_iret C X dX9_lackOf_12 ⟨rfl, by omega, by omega⟩
  · refine s_iload_n C dX9_lackOf_7 rfl ?_
    refine s_if_ne (tgt := 13) C dX9_lackOf_8 (by decide) (fun q6 => ?_) (fun q6 => ?_)
    · obtain hc7 | hc7 | hc7 : c.toInt = 0 ∨ c.toInt = 1 ∨ c.toInt = 2 := by omega
      · have hnhc7 : c.toNatClampNeg = 0 := by unfold Int32.toNatClampNeg; omega
        refine s_aload_n C dX9_lackOf_13 rfl ?_
        refine s_getr (k := 2) (j := 27) C y0 fw_X9_23 rfl dX9_lackOf_14 ?_
        refine s_iload_n C dX9_lackOf_17 rfl ?_
        refine s_aald (kd := 0) C y27 ⟨_, rfl⟩ (by omega) dX9_lackOf_18 ?_
        rw [show c.toNatClampNeg = 0 by unfold Int32.toNatClampNeg; omega]
        refine s_get (k := 0) (x := (σ.1 31 0)) C y31 fw_X9_91 rfl rfl dX9_lackOf_19 ?_
        refine s_if_eq (tgt := 29) C dX9_lackOf_22 (by decide) (fun q8 => ?_) (fun q8 => ?_)
        · refine s_bipush C dX9_lackOf_29 (by decide) (fun z9 tz9 => ?_)
          exact s_iret C X dX9_lackOf_31 ⟨rfl, by omega, by omega⟩
        · refine s_iconst C dX9_lackOf_25 (by decide) (fun z10 tz10 => ?_)
          refine s_goto (tgt := 31) C dX9_lackOf_26 (by decide) ?_
          exact s_iret C X dX9_lackOf_31 ⟨rfl, by omega, by omega⟩
      · have hnhc7 : c.toNatClampNeg = 1 := by unfold Int32.toNatClampNeg; omega
        refine s_aload_n C dX9_lackOf_13 rfl ?_
        refine s_getr (k := 2) (j := 27) C y0 fw_X9_23 rfl dX9_lackOf_14 ?_
        refine s_iload_n C dX9_lackOf_17 rfl ?_
        refine s_aald (kd := 0) C y27 ⟨_, rfl⟩ (by omega) dX9_lackOf_18 ?_
        rw [show c.toNatClampNeg = 1 by unfold Int32.toNatClampNeg; omega]
        refine s_get (k := 0) (x := (σ.1 32 0)) C y32 fw_X9_91 rfl rfl dX9_lackOf_19 ?_
        refine s_if_eq (tgt := 29) C dX9_lackOf_22 (by decide) (fun q11 => ?_) (fun q11 => ?_)
        · refine s_bipush C dX9_lackOf_29 (by decide) (fun z12 tz12 => ?_)
          exact s_iret C X dX9_lackOf_31 ⟨rfl, by omega, by omega⟩
        · refine s_iconst C dX9_lackOf_25 (by decide) (fun z13 tz13 => ?_)
          refine s_goto (tgt := 31) C dX9_lackOf_26 (by decide) ?_
          exact s_iret C X dX9_lackOf_31 ⟨rfl, by omega, by omega⟩
      · have hnhc7 : c.toNatClampNeg = 2 := by unfold Int32.toNatClampNeg; omega
        refine s_aload_n C dX9_lackOf_13 rfl ?_
        refine s_getr (k := 2) (j := 27) C y0 fw_X9_23 rfl dX9_lackOf_14 ?_
        refine s_iload_n C dX9_lackOf_17 rfl ?_
        refine s_aald (kd := 0) C y27 ⟨_, rfl⟩ (by omega) dX9_lackOf_18 ?_
        rw [show c.toNatClampNeg = 2 by unfold Int32.toNatClampNeg; omega]
        refine s_get (k := 0) (x := (σ.1 33 0)) C y33 fw_X9_91 rfl rfl dX9_lackOf_19 ?_
        refine s_if_eq (tgt := 29) C dX9_lackOf_22 (by decide) (fun q14 => ?_) (fun q14 => ?_)
        · refine s_bipush C dX9_lackOf_29 (by decide) (fun z15 tz15 => ?_)
          exact s_iret C X dX9_lackOf_31 ⟨rfl, by omega, by omega⟩
        · refine s_iconst C dX9_lackOf_25 (by decide) (fun z16 tz16 => ?_)
          refine s_goto (tgt := 31) C dX9_lackOf_26 (by decide) ?_
          exact s_iret C X dX9_lackOf_31 ⟨rfl, by omega, by omega⟩
    · refine s_iconst C dX9_lackOf_11 (by decide) (fun z17 tz17 => ?_)
      exact s_iret C X dX9_lackOf_12 ⟨rfl, by omega, by omega⟩
set_option maxRecDepth 100000 in
theorem c_X9_freshSurvey_0 (l : Launch) (ad : Nat → Nat) (σ : Sg) (c : Int32) (hX : IX σ.1) (hc : c.toInt = 0) : Mt l yX9_freshSurvey cX9_freshSurvey 2 (some (.object "RunCuts$Survey")) 6 ad σ [.ref (ad 0), .int c] (oR (fun r τ => r = ad 37 ∧ IX τ.1 ∧ Fr [62, 63, 49, 50, 51] [(61, 1), (61, 2), (61, 5), (37, 3), (37, 4), (37, 5), (37, 6), (37, 7)] σ τ)) := by
  refine Mt_intro (by decide +kernel) (by simp [lg_sl, Value.category]) (fun E C X => ?_)
  show WP E ad 0 [some (.ref (ad 0)), some (.int c)] [] σ
  refine s_aload_n C dX9_freshSurvey_0 rfl ?_
  refine s_getr (k := 6) (j := 61) C y0 fw_X9_58 rfl dX9_freshSurvey_1 ?_
  refine s_callVV (st := []) C (c_X2_refresh l ad σ  hX ) cv_X9_341 y61 rfl rfl rfl ⟨by decide, by decide⟩ (Nat.le_of_ble_eq_true rfl) dX9_freshSurvey_4 ?_
  intro τ2 h3
  have hXτ2 := h3.1
  have hRτ2 := h3.2.2
  refine s_aload_n C dX9_freshSurvey_7 rfl ?_
  refine s_getr (k := 4) (j := 29) C y0 fw_X9_32 rfl dX9_freshSurvey_8 ?_
  refine s_iload_n C dX9_freshSurvey_11 rfl ?_
  refine s_aald (kd := 1) C y29 ⟨_, rfl⟩ (by omega) dX9_freshSurvey_12 ?_
  rw [show c.toNatClampNeg = 0 by unfold Int32.toNatClampNeg; omega]
  refine s_callVV (st := []) C (c_X7_refresh_0 l ad τ2  hXτ2 ) cv_X9_344 y37 rfl rfl rfl ⟨by decide, by decide⟩ (Nat.le_of_ble_eq_true rfl) dX9_freshSurvey_13 ?_
  intro τ5 h6
  have hXτ5 := h6.1
  have hRτ5 := h6.2.2
  refine s_aload_n C dX9_freshSurvey_16 rfl ?_
  refine s_getr (k := 4) (j := 29) C y0 fw_X9_32 rfl dX9_freshSurvey_17 ?_
  refine s_iload_n C dX9_freshSurvey_20 rfl ?_
  refine s_aald (kd := 1) C y29 ⟨_, rfl⟩ (by omega) dX9_freshSurvey_21 ?_
  rw [show c.toNatClampNeg = 0 by unfold Int32.toNatClampNeg; omega]
  exact s_aret C X dX9_freshSurvey_22 ⟨rfl, hXτ5, (Fr.tr (Fr.tr Fr.rf (Fr.mo h3.2.1 (by decide) (by decide))) (Fr.mo h6.2.1 (by decide) (by decide)))⟩
set_option maxRecDepth 100000 in
theorem c_X9_freshSurvey_1 (l : Launch) (ad : Nat → Nat) (σ : Sg) (c : Int32) (hX : IX σ.1) (hc : c.toInt = 1) : Mt l yX9_freshSurvey cX9_freshSurvey 2 (some (.object "RunCuts$Survey")) 6 ad σ [.ref (ad 0), .int c] (oR (fun r τ => r = ad 38 ∧ IX τ.1 ∧ Fr [62, 63, 52, 53, 54] [(61, 1), (61, 2), (61, 5), (38, 3), (38, 4), (38, 5), (38, 6), (38, 7)] σ τ)) := by
  refine Mt_intro (by decide +kernel) (by simp [lg_sl, Value.category]) (fun E C X => ?_)
  show WP E ad 0 [some (.ref (ad 0)), some (.int c)] [] σ
  refine s_aload_n C dX9_freshSurvey_0 rfl ?_
  refine s_getr (k := 6) (j := 61) C y0 fw_X9_58 rfl dX9_freshSurvey_1 ?_
  refine s_callVV (st := []) C (c_X2_refresh l ad σ  hX ) cv_X9_341 y61 rfl rfl rfl ⟨by decide, by decide⟩ (Nat.le_of_ble_eq_true rfl) dX9_freshSurvey_4 ?_
  intro τ2 h3
  have hXτ2 := h3.1
  have hRτ2 := h3.2.2
  refine s_aload_n C dX9_freshSurvey_7 rfl ?_
  refine s_getr (k := 4) (j := 29) C y0 fw_X9_32 rfl dX9_freshSurvey_8 ?_
  refine s_iload_n C dX9_freshSurvey_11 rfl ?_
  refine s_aald (kd := 1) C y29 ⟨_, rfl⟩ (by omega) dX9_freshSurvey_12 ?_
  rw [show c.toNatClampNeg = 1 by unfold Int32.toNatClampNeg; omega]
  refine s_callVV (st := []) C (c_X7_refresh_1 l ad τ2  hXτ2 ) cv_X9_344 y38 rfl rfl rfl ⟨by decide, by decide⟩ (Nat.le_of_ble_eq_true rfl) dX9_freshSurvey_13 ?_
  intro τ5 h6
  have hXτ5 := h6.1
  have hRτ5 := h6.2.2
  refine s_aload_n C dX9_freshSurvey_16 rfl ?_
  refine s_getr (k := 4) (j := 29) C y0 fw_X9_32 rfl dX9_freshSurvey_17 ?_
  refine s_iload_n C dX9_freshSurvey_20 rfl ?_
  refine s_aald (kd := 1) C y29 ⟨_, rfl⟩ (by omega) dX9_freshSurvey_21 ?_
  rw [show c.toNatClampNeg = 1 by unfold Int32.toNatClampNeg; omega]
  exact s_aret C X dX9_freshSurvey_22 ⟨rfl, hXτ5, (Fr.tr (Fr.tr Fr.rf (Fr.mo h3.2.1 (by decide) (by decide))) (Fr.mo h6.2.1 (by decide) (by decide)))⟩
set_option maxRecDepth 100000 in
theorem c_X9_freshSurvey_2 (l : Launch) (ad : Nat → Nat) (σ : Sg) (c : Int32) (hX : IX σ.1) (hc : c.toInt = 2) : Mt l yX9_freshSurvey cX9_freshSurvey 2 (some (.object "RunCuts$Survey")) 6 ad σ [.ref (ad 0), .int c] (oR (fun r τ => r = ad 39 ∧ IX τ.1 ∧ Fr [62, 63, 55, 56, 57] [(61, 1), (61, 2), (61, 5), (39, 3), (39, 4), (39, 5), (39, 6), (39, 7)] σ τ)) := by
  refine Mt_intro (by decide +kernel) (by simp [lg_sl, Value.category]) (fun E C X => ?_)
  show WP E ad 0 [some (.ref (ad 0)), some (.int c)] [] σ
  refine s_aload_n C dX9_freshSurvey_0 rfl ?_
  refine s_getr (k := 6) (j := 61) C y0 fw_X9_58 rfl dX9_freshSurvey_1 ?_
  refine s_callVV (st := []) C (c_X2_refresh l ad σ  hX ) cv_X9_341 y61 rfl rfl rfl ⟨by decide, by decide⟩ (Nat.le_of_ble_eq_true rfl) dX9_freshSurvey_4 ?_
  intro τ2 h3
  have hXτ2 := h3.1
  have hRτ2 := h3.2.2
  refine s_aload_n C dX9_freshSurvey_7 rfl ?_
  refine s_getr (k := 4) (j := 29) C y0 fw_X9_32 rfl dX9_freshSurvey_8 ?_
  refine s_iload_n C dX9_freshSurvey_11 rfl ?_
  refine s_aald (kd := 1) C y29 ⟨_, rfl⟩ (by omega) dX9_freshSurvey_12 ?_
  rw [show c.toNatClampNeg = 2 by unfold Int32.toNatClampNeg; omega]
  refine s_callVV (st := []) C (c_X7_refresh_2 l ad τ2  hXτ2 ) cv_X9_344 y39 rfl rfl rfl ⟨by decide, by decide⟩ (Nat.le_of_ble_eq_true rfl) dX9_freshSurvey_13 ?_
  intro τ5 h6
  have hXτ5 := h6.1
  have hRτ5 := h6.2.2
  refine s_aload_n C dX9_freshSurvey_16 rfl ?_
  refine s_getr (k := 4) (j := 29) C y0 fw_X9_32 rfl dX9_freshSurvey_17 ?_
  refine s_iload_n C dX9_freshSurvey_20 rfl ?_
  refine s_aald (kd := 1) C y29 ⟨_, rfl⟩ (by omega) dX9_freshSurvey_21 ?_
  rw [show c.toNatClampNeg = 2 by unfold Int32.toNatClampNeg; omega]
  exact s_aret C X dX9_freshSurvey_22 ⟨rfl, hXτ5, (Fr.tr (Fr.tr Fr.rf (Fr.mo h3.2.1 (by decide) (by decide))) (Fr.mo h6.2.1 (by decide) (by decide)))⟩
set_option maxRecDepth 100000 in
theorem c_X9_eventOf (l : Launch) (ad : Nat → Nat) (σ : Sg) (p : Int32) (k : Int32) (w : Int32) (hX : IX σ.1) : Mt l yX9_eventOf cX9_eventOf 5 (some .int) 2 ad σ [.ref (ad 0), .int p, .int k, .int w] (oI (fun r τ => τ = σ ∧ True)) := by
  have hpr := hX.pr
  have htot := hX.tot
  have hms := hX.ms
  refine Mt_intro (by decide +kernel) (by simp [lg_sl, Value.category]) (fun E C X => ?_)
  show WP E ad 0 [some (.ref (ad 0)), some (.int p), some (.int k), some (.int w), none] [] σ
  refine s_aload_n C dX9_eventOf_0 rfl ?_
  refine s_getr (k := 0) (j := 1) C y0 fw_X9_12 rfl dX9_eventOf_1 ?_
  refine s_iload_n C dX9_eventOf_4 rfl ?_
  refine s_iload_n C dX9_eventOf_5 rfl ?_
  refine s_callVI (st := []) C (c_X5_hasEvent l ad σ p k (by omega)) cv_X9_144 y1 rfl rfl rfl ⟨by decide, by decide⟩ (Nat.le_of_ble_eq_true rfl) dX9_eventOf_6 ?_
  intro r1 τ2 h3
  obtain ⟨eh3, h3⟩ := h3; replace eh3 := eh3.symm; subst eh3
  have bv1 := hX.ev p.toNatClampNeg
  refine s_if_ne (tgt := 14) C dX9_eventOf_9 (by decide) (fun q4 => ?_) (fun q4 => ?_)
  · refine s_iload_n C dX9_eventOf_14 rfl ?_
    refine s_iload_n C dX9_eventOf_15 rfl ?_
    refine s_callSI (st := []) C (c_X5_spotOf l ad σ p k (by omega) (by omega)) cv_X9_148 rfl rfl ⟨by decide, by decide⟩ (Nat.le_of_ble_eq_true rfl) dX9_eventOf_16 ?_
    intro r5 τ6 h7
    obtain ⟨eh7, h7⟩ := h7; replace eh7 := eh7.symm; subst eh7
    refine s_istore C dX9_eventOf_19 (by decide) (Nat.le_of_ble_eq_true rfl) rfl ?_
    show WP E ad 21 [some (.ref (ad 0)), some (.int p), some (.int k), some (.int w), some (.int r5)] [] σ
    refine s_iload_n C dX9_eventOf_21 rfl ?_
    by_cases hsw : w.toInt < 0 ∨ 3 < w.toInt
    · refine s_tblOut (tgt := 99) C dX9_eventOf_22 hsw (by decide) ?_
      refine s_iconst C dX9_eventOf_99 (by decide) (fun z8 tz8 => ?_)
      exact s_iret C X dX9_eventOf_100 ⟨rfl, trivial⟩
    by_cases hs0 : w.toInt = 0
    · refine s_tblIn (off := 30) (tgt := 52) C dX9_eventOf_22 (by omega) (by omega) (by rw [hs0]; rfl) (by decide) ?_
      refine s_aload_n C dX9_eventOf_52 rfl ?_
      refine s_getr (k := 0) (j := 1) C y0 fw_X9_12 rfl dX9_eventOf_53 ?_
      refine s_getr (k := 6) (j := 5) C y1 fw_X9_152 rfl dX9_eventOf_56 ?_
      refine s_iload C dX9_eventOf_59 rfl ?_
      refine s_iald (r := (σ.1 5 r5.toNatClampNeg)) C y5 (by omega) rfl dX9_eventOf_61 ?_
      exact s_iret C X dX9_eventOf_62 ⟨rfl, trivial⟩
    by_cases hs1 : w.toInt = 1
    · refine s_tblIn (off := 41) (tgt := 63) C dX9_eventOf_22 (by omega) (by omega) (by rw [hs1]; rfl) (by decide) ?_
      refine s_aload_n C dX9_eventOf_63 rfl ?_
      refine s_getr (k := 0) (j := 1) C y0 fw_X9_12 rfl dX9_eventOf_64 ?_
      refine s_getr (k := 7) (j := 6) C y1 fw_X9_155 rfl dX9_eventOf_67 ?_
      refine s_iload C dX9_eventOf_70 rfl ?_
      refine s_iald (r := (σ.1 6 r5.toNatClampNeg)) C y6 (by omega) rfl dX9_eventOf_72 ?_
      refine s_bipush C dX9_eventOf_73 (by decide) (fun z9 tz9 => ?_)
      refine s_iaddU C dX9_eventOf_75 (fun z10 tz10 => ?_)
      exact s_iret C X dX9_eventOf_76 ⟨rfl, trivial⟩
    by_cases hs2 : w.toInt = 2
    · refine s_tblIn (off := 55) (tgt := 77) C dX9_eventOf_22 (by omega) (by omega) (by rw [hs2]; rfl) (by decide) ?_
      refine s_aload_n C dX9_eventOf_77 rfl ?_
      refine s_getr (k := 0) (j := 1) C y0 fw_X9_12 rfl dX9_eventOf_78 ?_
      refine s_getr (k := 8) (j := 7) C y1 fw_X9_158 rfl dX9_eventOf_81 ?_
      refine s_iload C dX9_eventOf_84 rfl ?_
      refine s_iald (r := (σ.1 7 r5.toNatClampNeg)) C y7 (by omega) rfl dX9_eventOf_86 ?_
      exact s_iret C X dX9_eventOf_87 ⟨rfl, trivial⟩
    by_cases hs3 : w.toInt = 3
    · refine s_tblIn (off := 66) (tgt := 88) C dX9_eventOf_22 (by omega) (by omega) (by rw [hs3]; rfl) (by decide) ?_
      refine s_aload_n C dX9_eventOf_88 rfl ?_
      refine s_getr (k := 0) (j := 1) C y0 fw_X9_12 rfl dX9_eventOf_89 ?_
      refine s_getr (k := 9) (j := 8) C y1 fw_X9_161 rfl dX9_eventOf_92 ?_
      refine s_iload C dX9_eventOf_95 rfl ?_
      refine s_iald (r := (σ.1 8 r5.toNatClampNeg)) C y8 (by omega) rfl dX9_eventOf_97 ?_
      exact s_iret C X dX9_eventOf_98 ⟨rfl, trivial⟩
    omega
  · refine s_iconst C dX9_eventOf_12 (by decide) (fun z11 tz11 => ?_)
    exact s_iret C X dX9_eventOf_13 ⟨rfl, trivial⟩
set_option maxRecDepth 100000 in
theorem c_X9_clock (l : Launch) (ad : Nat → Nat) (σ : Sg) (p : Int32) (k : Int32) (q : Int32) (hX : IX σ.1) : Mt l yX9_clock cX9_clock 4 (some .int) 2 ad σ [.ref (ad 0), .int p, .int k, .int q] (oI (fun r τ => τ = σ ∧ True)) := by
  have hpr := hX.pr
  have htot := hX.tot
  have hms := hX.ms
  refine Mt_intro (by decide +kernel) (by simp [lg_sl, Value.category]) (fun E C X => ?_)
  show WP E ad 0 [some (.ref (ad 0)), some (.int p), some (.int k), some (.int q)] [] σ
  refine s_aload_n C dX9_clock_0 rfl ?_
  refine s_getr (k := 0) (j := 1) C y0 fw_X9_12 rfl dX9_clock_1 ?_
  refine s_iload_n C dX9_clock_4 rfl ?_
  refine s_iload_n C dX9_clock_5 rfl ?_
  refine s_callVI (st := []) C (c_X5_hasEvent l ad σ p k (by omega)) cv_X9_144 y1 rfl rfl rfl ⟨by decide, by decide⟩ (Nat.le_of_ble_eq_true rfl) dX9_clock_6 ?_
  intro r1 τ2 h3
  obtain ⟨eh3, h3⟩ := h3; replace eh3 := eh3.symm; subst eh3
  have bv2 := hX.ev p.toNatClampNeg
  refine s_if_eq (tgt := 23) C dX9_clock_9 (by decide) (fun q4 => ?_) (fun q4 => ?_)
  · refine s_iconst C dX9_clock_23 (by decide) (fun z5 tz5 => ?_)
    exact s_iret C X dX9_clock_24 ⟨rfl, trivial⟩
  · refine s_aload_n C dX9_clock_12 rfl ?_
    refine s_getr (k := 0) (j := 1) C y0 fw_X9_12 rfl dX9_clock_13 ?_
    refine s_iload_n C dX9_clock_16 rfl ?_
    refine s_callVI (st := []) C (c_X5_hasProcess l ad σ q ) cv_X9_97 y1 rfl rfl rfl ⟨by decide, by decide⟩ (Nat.le_of_ble_eq_true rfl) dX9_clock_17 ?_
    intro r6 τ7 h8
    obtain ⟨eh8, h8⟩ := h8; replace eh8 := eh8.symm; subst eh8
    refine s_if_ne (tgt := 25) C dX9_clock_20 (by decide) (fun q9 => ?_) (fun q9 => ?_)
    · refine s_aload_n C dX9_clock_25 rfl ?_
      refine s_getr (k := 0) (j := 1) C y0 fw_X9_12 rfl dX9_clock_26 ?_
      refine s_iload_n C dX9_clock_29 rfl ?_
      refine s_iload_n C dX9_clock_30 rfl ?_
      refine s_callVI (st := []) C (c_X5_clockOf l ad σ p k (by omega) (by omega)) cv_X9_164 y1 rfl rfl rfl ⟨by decide, by decide⟩ (Nat.le_of_ble_eq_true rfl) dX9_clock_31 ?_
      intro r10 τ11 h12
      obtain ⟨eh12, h12⟩ := h12; replace eh12 := eh12.symm; subst eh12
      refine s_aload_n C dX9_clock_34 rfl ?_
      refine s_getr (k := 0) (j := 1) C y0 fw_X9_12 rfl dX9_clock_35 ?_
      refine s_iload_n C dX9_clock_38 rfl ?_
      refine s_callVI (st := [.int r10]) C (c_X5_placeOf l ad σ q (by omega) (by omega)) cv_X9_167 y1 rfl rfl rfl ⟨by decide, by decide⟩ (Nat.le_of_ble_eq_true rfl) dX9_clock_39 ?_
      intro r13 τ14 h15
      obtain ⟨eh15, h15⟩ := h15; replace eh15 := eh15.symm; subst eh15
      refine s_callSI (st := []) C (c_X4_at l ad σ r10 r13 ) cv_X9_170 rfl rfl ⟨by decide, by decide⟩ (Nat.le_of_ble_eq_true rfl) dX9_clock_42 ?_
      intro r16 τ17 h18
      obtain ⟨eh18, h18⟩ := h18; replace eh18 := eh18.symm; subst eh18
      exact s_iret C X dX9_clock_45 ⟨rfl, trivial⟩
    · refine s_iconst C dX9_clock_23 (by decide) (fun z19 tz19 => ?_)
      exact s_iret C X dX9_clock_24 ⟨rfl, trivial⟩
set_option maxRecDepth 100000 in
theorem c_X9_ahead (l : Launch) (ad : Nat → Nat) (σ : Sg) (p : Int32) (k : Int32) (q : Int32) (j : Int32) (hX : IX σ.1) : Mt l yX9_ahead cX9_ahead 5 (some .int) 2 ad σ [.ref (ad 0), .int p, .int k, .int q, .int j] (oI (fun r τ => τ = σ ∧ True)) := by
  have hpr := hX.pr
  have htot := hX.tot
  have hms := hX.ms
  refine Mt_intro (by decide +kernel) (by simp [lg_sl, Value.category]) (fun E C X => ?_)
  show WP E ad 0 [some (.ref (ad 0)), some (.int p), some (.int k), some (.int q), some (.int j)] [] σ
  refine s_aload_n C dX9_ahead_0 rfl ?_
  refine s_getr (k := 0) (j := 1) C y0 fw_X9_12 rfl dX9_ahead_1 ?_
  refine s_iload_n C dX9_ahead_4 rfl ?_
  refine s_iload_n C dX9_ahead_5 rfl ?_
  refine s_callVI (st := []) C (c_X5_hasEvent l ad σ p k (by omega)) cv_X9_144 y1 rfl rfl rfl ⟨by decide, by decide⟩ (Nat.le_of_ble_eq_true rfl) dX9_ahead_6 ?_
  intro r1 τ2 h3
  obtain ⟨eh3, h3⟩ := h3; replace eh3 := eh3.symm; subst eh3
  have bv3 := hX.ev p.toNatClampNeg
  refine s_if_eq (tgt := 25) C dX9_ahead_9 (by decide) (fun q4 => ?_) (fun q4 => ?_)
  · refine s_iconst C dX9_ahead_25 (by decide) (fun z5 tz5 => ?_)
    exact s_iret C X dX9_ahead_26 ⟨rfl, trivial⟩
  · refine s_aload_n C dX9_ahead_12 rfl ?_
    refine s_getr (k := 0) (j := 1) C y0 fw_X9_12 rfl dX9_ahead_13 ?_
    refine s_iload_n C dX9_ahead_16 rfl ?_
    refine s_iload C dX9_ahead_17 rfl ?_
    refine s_callVI (st := []) C (c_X5_hasEvent l ad σ q j (by omega)) cv_X9_144 y1 rfl rfl rfl ⟨by decide, by decide⟩ (Nat.le_of_ble_eq_true rfl) dX9_ahead_19 ?_
    intro r6 τ7 h8
    obtain ⟨eh8, h8⟩ := h8; replace eh8 := eh8.symm; subst eh8
    have bv4 := hX.ev q.toNatClampNeg
    refine s_if_ne (tgt := 27) C dX9_ahead_22 (by decide) (fun q9 => ?_) (fun q9 => ?_)
    · refine s_iload_n C dX9_ahead_27 rfl ?_
      refine s_iload_n C dX9_ahead_28 rfl ?_
      refine s_icmp_ne (tgt := 40) C dX9_ahead_29 (by decide) (fun q10 => ?_) (fun q10 => ?_)
      · refine s_aload_n C dX9_ahead_40 rfl ?_
        refine s_getr (k := 0) (j := 1) C y0 fw_X9_12 rfl dX9_ahead_41 ?_
        refine s_iload_n C dX9_ahead_44 rfl ?_
        refine s_iload C dX9_ahead_45 rfl ?_
        refine s_callVI (st := []) C (c_X5_clockOf l ad σ q j (by omega) (by omega)) cv_X9_164 y1 rfl rfl rfl ⟨by decide, by decide⟩ (Nat.le_of_ble_eq_true rfl) dX9_ahead_47 ?_
        intro r11 τ12 h13
        obtain ⟨eh13, h13⟩ := h13; replace eh13 := eh13.symm; subst eh13
        refine s_aload_n C dX9_ahead_50 rfl ?_
        refine s_getr (k := 0) (j := 1) C y0 fw_X9_12 rfl dX9_ahead_51 ?_
        refine s_iload_n C dX9_ahead_54 rfl ?_
        refine s_callVI (st := [.int r11]) C (c_X5_placeOf l ad σ p (by omega) (by omega)) cv_X9_167 y1 rfl rfl rfl ⟨by decide, by decide⟩ (Nat.le_of_ble_eq_true rfl) dX9_ahead_55 ?_
        intro r14 τ15 h16
        obtain ⟨eh16, h16⟩ := h16; replace eh16 := eh16.symm; subst eh16
        refine s_callSI (st := []) C (c_X4_at l ad σ r11 r14 ) cv_X9_170 rfl rfl ⟨by decide, by decide⟩ (Nat.le_of_ble_eq_true rfl) dX9_ahead_58 ?_
        intro r17 τ18 h19
        obtain ⟨eh19, h19⟩ := h19; replace eh19 := eh19.symm; subst eh19
        refine s_iload_n C dX9_ahead_61 rfl ?_
        refine s_icmp_lt (tgt := 67) C dX9_ahead_62 (by decide) (fun q20 => ?_) (fun q20 => ?_)
        · refine s_aload_n C dX9_ahead_67 rfl ?_
          refine s_getr (k := 0) (j := 1) C y0 fw_X9_12 rfl dX9_ahead_68 ?_
          refine s_iload_n C dX9_ahead_71 rfl ?_
          refine s_iload_n C dX9_ahead_72 rfl ?_
          refine s_callVI (st := []) C (c_X5_clockOf l ad σ p k (by omega) (by omega)) cv_X9_164 y1 rfl rfl rfl ⟨by decide, by decide⟩ (Nat.le_of_ble_eq_true rfl) dX9_ahead_73 ?_
          intro r21 τ22 h23
          obtain ⟨eh23, h23⟩ := h23; replace eh23 := eh23.symm; subst eh23
          refine s_aload_n C dX9_ahead_76 rfl ?_
          refine s_getr (k := 0) (j := 1) C y0 fw_X9_12 rfl dX9_ahead_77 ?_
          refine s_iload_n C dX9_ahead_80 rfl ?_
          refine s_callVI (st := [.int r21]) C (c_X5_placeOf l ad σ q (by omega) (by omega)) cv_X9_167 y1 rfl rfl rfl ⟨by decide, by decide⟩ (Nat.le_of_ble_eq_true rfl) dX9_ahead_81 ?_
          intro r24 τ25 h26
          obtain ⟨eh26, h26⟩ := h26; replace eh26 := eh26.symm; subst eh26
          refine s_callSI (st := []) C (c_X4_at l ad σ r21 r24 ) cv_X9_170 rfl rfl ⟨by decide, by decide⟩ (Nat.le_of_ble_eq_true rfl) dX9_ahead_84 ?_
          intro r27 τ28 h29
          obtain ⟨eh29, h29⟩ := h29; replace eh29 := eh29.symm; subst eh29
          refine s_iload C dX9_ahead_87 rfl ?_
          refine s_icmp_lt (tgt := 96) C dX9_ahead_89 (by decide) (fun q30 => ?_) (fun q30 => ?_)
          · refine s_iconst C dX9_ahead_96 (by decide) (fun z31 tz31 => ?_)
            exact s_iret C X dX9_ahead_97 ⟨rfl, trivial⟩
          · refine s_iconst C dX9_ahead_92 (by decide) (fun z32 tz32 => ?_)
            refine s_goto (tgt := 97) C dX9_ahead_93 (by decide) ?_
            exact s_iret C X dX9_ahead_97 ⟨rfl, trivial⟩
        · refine s_iconst C dX9_ahead_65 (by decide) (fun z33 tz33 => ?_)
          exact s_iret C X dX9_ahead_66 ⟨rfl, trivial⟩
      · refine s_iload_n C dX9_ahead_32 rfl ?_
        refine s_iload C dX9_ahead_33 rfl ?_
        refine s_icmp_ne (tgt := 40) C dX9_ahead_35 (by decide) (fun q34 => ?_) (fun q34 => ?_)
        · refine s_aload_n C dX9_ahead_40 rfl ?_
          refine s_getr (k := 0) (j := 1) C y0 fw_X9_12 rfl dX9_ahead_41 ?_
          refine s_iload_n C dX9_ahead_44 rfl ?_
          refine s_iload C dX9_ahead_45 rfl ?_
          refine s_callVI (st := []) C (c_X5_clockOf l ad σ q j (by omega) (by omega)) cv_X9_164 y1 rfl rfl rfl ⟨by decide, by decide⟩ (Nat.le_of_ble_eq_true rfl) dX9_ahead_47 ?_
          intro r35 τ36 h37
          obtain ⟨eh37, h37⟩ := h37; replace eh37 := eh37.symm; subst eh37
          refine s_aload_n C dX9_ahead_50 rfl ?_
          refine s_getr (k := 0) (j := 1) C y0 fw_X9_12 rfl dX9_ahead_51 ?_
          refine s_iload_n C dX9_ahead_54 rfl ?_
          refine s_callVI (st := [.int r35]) C (c_X5_placeOf l ad σ p (by omega) (by omega)) cv_X9_167 y1 rfl rfl rfl ⟨by decide, by decide⟩ (Nat.le_of_ble_eq_true rfl) dX9_ahead_55 ?_
          intro r38 τ39 h40
          obtain ⟨eh40, h40⟩ := h40; replace eh40 := eh40.symm; subst eh40
          refine s_callSI (st := []) C (c_X4_at l ad σ r35 r38 ) cv_X9_170 rfl rfl ⟨by decide, by decide⟩ (Nat.le_of_ble_eq_true rfl) dX9_ahead_58 ?_
          intro r41 τ42 h43
          obtain ⟨eh43, h43⟩ := h43; replace eh43 := eh43.symm; subst eh43
          refine s_iload_n C dX9_ahead_61 rfl ?_
          refine s_icmp_lt (tgt := 67) C dX9_ahead_62 (by decide) (fun q44 => ?_) (fun q44 => ?_)
          · refine s_aload_n C dX9_ahead_67 rfl ?_
            refine s_getr (k := 0) (j := 1) C y0 fw_X9_12 rfl dX9_ahead_68 ?_
            refine s_iload_n C dX9_ahead_71 rfl ?_
            refine s_iload_n C dX9_ahead_72 rfl ?_
            refine s_callVI (st := []) C (c_X5_clockOf l ad σ p k (by omega) (by omega)) cv_X9_164 y1 rfl rfl rfl ⟨by decide, by decide⟩ (Nat.le_of_ble_eq_true rfl) dX9_ahead_73 ?_
            intro r45 τ46 h47
            obtain ⟨eh47, h47⟩ := h47; replace eh47 := eh47.symm; subst eh47
            refine s_aload_n C dX9_ahead_76 rfl ?_
            refine s_getr (k := 0) (j := 1) C y0 fw_X9_12 rfl dX9_ahead_77 ?_
            refine s_iload_n C dX9_ahead_80 rfl ?_
            refine s_callVI (st := [.int r45]) C (c_X5_placeOf l ad σ q (by omega) (by omega)) cv_X9_167 y1 rfl rfl rfl ⟨by decide, by decide⟩ (Nat.le_of_ble_eq_true rfl) dX9_ahead_81 ?_
            intro r48 τ49 h50
            obtain ⟨eh50, h50⟩ := h50; replace eh50 := eh50.symm; subst eh50
            refine s_callSI (st := []) C (c_X4_at l ad σ r45 r48 ) cv_X9_170 rfl rfl ⟨by decide, by decide⟩ (Nat.le_of_ble_eq_true rfl) dX9_ahead_84 ?_
            intro r51 τ52 h53
            obtain ⟨eh53, h53⟩ := h53; replace eh53 := eh53.symm; subst eh53
            refine s_iload C dX9_ahead_87 rfl ?_
            refine s_icmp_lt (tgt := 96) C dX9_ahead_89 (by decide) (fun q54 => ?_) (fun q54 => ?_)
            · refine s_iconst C dX9_ahead_96 (by decide) (fun z55 tz55 => ?_)
              exact s_iret C X dX9_ahead_97 ⟨rfl, trivial⟩
            · refine s_iconst C dX9_ahead_92 (by decide) (fun z56 tz56 => ?_)
              refine s_goto (tgt := 97) C dX9_ahead_93 (by decide) ?_
              exact s_iret C X dX9_ahead_97 ⟨rfl, trivial⟩
          · refine s_iconst C dX9_ahead_65 (by decide) (fun z57 tz57 => ?_)
            exact s_iret C X dX9_ahead_66 ⟨rfl, trivial⟩
        · refine s_iconst C dX9_ahead_38 (by decide) (fun z58 tz58 => ?_)
          exact s_iret C X dX9_ahead_39 ⟨rfl, trivial⟩
    · refine s_iconst C dX9_ahead_25 (by decide) (fun z59 tz59 => ?_)
      exact s_iret C X dX9_ahead_26 ⟨rfl, trivial⟩
set_option maxRecDepth 100000 in
theorem c_X9_message (l : Launch) (ad : Nat → Nat) (σ : Sg) (m : Int32) (w : Int32) (hX : IX σ.1) : Mt l yX9_message cX9_message 3 (some .int) 1 ad σ [.ref (ad 0), .int m, .int w] (oI (fun r τ => τ = σ ∧ True)) := by
  have hpr := hX.pr
  have htot := hX.tot
  have hms := hX.ms
  refine Mt_intro (by decide +kernel) (by simp [lg_sl, Value.category]) (fun E C X => ?_)
  show WP E ad 0 [some (.ref (ad 0)), some (.int m), some (.int w)] [] σ
  refine s_aload_n C dX9_message_0 rfl ?_
  refine s_getr (k := 0) (j := 1) C y0 fw_X9_12 rfl dX9_message_1 ?_
  refine s_iload_n C dX9_message_4 rfl ?_
  refine s_callVI (st := []) C (c_X5_hasMessage l ad σ m ) cv_X9_128 y1 rfl rfl rfl ⟨by decide, by decide⟩ (Nat.le_of_ble_eq_true rfl) dX9_message_5 ?_
  intro r1 τ2 h3
  obtain ⟨eh3, h3⟩ := h3; replace eh3 := eh3.symm; subst eh3
  refine s_if_ne (tgt := 13) C dX9_message_8 (by decide) (fun q4 => ?_) (fun q4 => ?_)
  · refine s_iload_n C dX9_message_13 rfl ?_
    by_cases hsw : w.toInt < 0 ∨ 3 < w.toInt
    · refine s_tblOut (tgt := 84) C dX9_message_14 hsw (by decide) ?_
      refine s_iconst C dX9_message_84 (by decide) (fun z5 tz5 => ?_)
      exact s_iret C X dX9_message_85 ⟨rfl, trivial⟩
    by_cases hs0 : w.toInt = 0
    · refine s_tblIn (off := 30) (tgt := 44) C dX9_message_14 (by omega) (by omega) (by rw [hs0]; rfl) (by decide) ?_
      refine s_aload_n C dX9_message_44 rfl ?_
      refine s_getr (k := 0) (j := 1) C y0 fw_X9_12 rfl dX9_message_45 ?_
      refine s_getr (k := 11) (j := 10) C y1 fw_X9_175 rfl dX9_message_48 ?_
      refine s_iload_n C dX9_message_51 rfl ?_
      refine s_iald (r := (σ.1 10 m.toNatClampNeg)) C y10 (by omega) rfl dX9_message_52 ?_
      have b6 := hX.sn m.toNatClampNeg
      exact s_iret C X dX9_message_53 ⟨rfl, trivial⟩
    by_cases hs1 : w.toInt = 1
    · refine s_tblIn (off := 40) (tgt := 54) C dX9_message_14 (by omega) (by omega) (by rw [hs1]; rfl) (by decide) ?_
      refine s_aload_n C dX9_message_54 rfl ?_
      refine s_getr (k := 0) (j := 1) C y0 fw_X9_12 rfl dX9_message_55 ?_
      refine s_getr (k := 12) (j := 11) C y1 fw_X9_178 rfl dX9_message_58 ?_
      refine s_iload_n C dX9_message_61 rfl ?_
      refine s_iald (r := (σ.1 11 m.toNatClampNeg)) C y11 (by omega) rfl dX9_message_62 ?_
      exact s_iret C X dX9_message_63 ⟨rfl, trivial⟩
    by_cases hs2 : w.toInt = 2
    · refine s_tblIn (off := 50) (tgt := 64) C dX9_message_14 (by omega) (by omega) (by rw [hs2]; rfl) (by decide) ?_
      refine s_aload_n C dX9_message_64 rfl ?_
      refine s_getr (k := 0) (j := 1) C y0 fw_X9_12 rfl dX9_message_65 ?_
      refine s_getr (k := 13) (j := 12) C y1 fw_X9_181 rfl dX9_message_68 ?_
      refine s_iload_n C dX9_message_71 rfl ?_
      refine s_iald (r := (σ.1 12 m.toNatClampNeg)) C y12 (by omega) rfl dX9_message_72 ?_
      have b7 := hX.tk m.toNatClampNeg
      exact s_iret C X dX9_message_73 ⟨rfl, trivial⟩
    by_cases hs3 : w.toInt = 3
    · refine s_tblIn (off := 60) (tgt := 74) C dX9_message_14 (by omega) (by omega) (by rw [hs3]; rfl) (by decide) ?_
      refine s_aload_n C dX9_message_74 rfl ?_
      refine s_getr (k := 0) (j := 1) C y0 fw_X9_12 rfl dX9_message_75 ?_
      refine s_getr (k := 14) (j := 13) C y1 fw_X9_184 rfl dX9_message_78 ?_
      refine s_iload_n C dX9_message_81 rfl ?_
      refine s_iald (r := (σ.1 13 m.toNatClampNeg)) C y13 (by omega) rfl dX9_message_82 ?_
      exact s_iret C X dX9_message_83 ⟨rfl, trivial⟩
    omega
  · refine s_iconst C dX9_message_11 (by decide) (fun z8 tz8 => ?_)
    exact s_iret C X dX9_message_12 ⟨rfl, trivial⟩
set_option maxRecDepth 100000 in
theorem c_X9_conditionsTold (l : Launch) (ad : Nat → Nat) (σ : Sg)   : Mt l yX9_conditionsTold cX9_conditionsTold 3 (some .int) 0 ad σ [.ref (ad 0)] (oI (fun r τ => τ = σ ∧ True)) := by
  refine Mt_intro (by decide +kernel) (by simp [lg_sl, Value.category]) (fun E C X => ?_)
  show WP E ad 0 [some (.ref (ad 0)), none, none] [] σ
  refine s_iconst C dX9_conditionsTold_0 (by decide) (fun z1 tz1 => ?_)
  refine s_istore_n C dX9_conditionsTold_1 (by decide) (Nat.le_of_ble_eq_true rfl) rfl ?_
  show WP E ad 2 [some (.ref (ad 0)), some (.int z1), none] [] σ
  refine s_iconst C dX9_conditionsTold_2 (by decide) (fun z2 tz2 => ?_)
  refine s_istore_n C dX9_conditionsTold_3 (by decide) (Nat.le_of_ble_eq_true rfl) rfl ?_
  show WP E ad 4 [some (.ref (ad 0)), some (.int z1), some (.int z2)] [] σ
  refine s_iload_n C dX9_conditionsTold_4 rfl ?_
  refine s_iconst C dX9_conditionsTold_5 (by decide) (fun z3 tz3 => ?_)
  refine s_icmp_ge (tgt := 35) C dX9_conditionsTold_6 (by decide) (fun q4 => ?_) (fun q4 => ?_)
  · omega
  · refine s_iload_n C dX9_conditionsTold_9 rfl ?_
    refine s_aload_n C dX9_conditionsTold_10 rfl ?_
    refine s_getr (k := 2) (j := 27) C y0 fw_X9_23 rfl dX9_conditionsTold_11 ?_
    refine s_iload_n C dX9_conditionsTold_14 rfl ?_
    refine s_aald (kd := 0) C y27 ⟨_, rfl⟩ (by omega) dX9_conditionsTold_15 ?_
    rw [show z2.toNatClampNeg = 0 by unfold Int32.toNatClampNeg; omega]
    refine s_get (k := 0) (x := (σ.1 31 0)) C y31 fw_X9_91 rfl rfl dX9_conditionsTold_16 ?_
    refine s_if_eq (tgt := 26) C dX9_conditionsTold_19 (by decide) (fun q5 => ?_) (fun q5 => ?_)
    · refine s_iconst C dX9_conditionsTold_26 (by decide) (fun z6 tz6 => ?_)
      refine s_iadd C dX9_conditionsTold_27 (by omega) (fun z7 tz7 => ?_)
      refine s_istore_n C dX9_conditionsTold_28 (by decide) (Nat.le_of_ble_eq_true rfl) rfl ?_
      show WP E ad 29 [some (.ref (ad 0)), some (.int z7), some (.int z2)] [] σ
      refine s_iinc C dX9_conditionsTold_29 rfl (by decide) rfl (by decide) (by omega) (fun z8 tz8 => ?_)
      show WP E ad 32 [some (.ref (ad 0)), some (.int z7), some (.int z8)] [] σ
      refine s_goto (tgt := 4) C dX9_conditionsTold_32 (by decide) ?_
      refine s_iload_n C dX9_conditionsTold_4 rfl ?_
      refine s_iconst C dX9_conditionsTold_5 (by decide) (fun z9 tz9 => ?_)
      refine s_icmp_ge (tgt := 35) C dX9_conditionsTold_6 (by decide) (fun q10 => ?_) (fun q10 => ?_)
      · omega
      · refine s_iload_n C dX9_conditionsTold_9 rfl ?_
        refine s_aload_n C dX9_conditionsTold_10 rfl ?_
        refine s_getr (k := 2) (j := 27) C y0 fw_X9_23 rfl dX9_conditionsTold_11 ?_
        refine s_iload_n C dX9_conditionsTold_14 rfl ?_
        refine s_aald (kd := 0) C y27 ⟨_, rfl⟩ (by omega) dX9_conditionsTold_15 ?_
        rw [show z8.toNatClampNeg = 1 by unfold Int32.toNatClampNeg; omega]
        refine s_get (k := 0) (x := (σ.1 32 0)) C y32 fw_X9_91 rfl rfl dX9_conditionsTold_16 ?_
        refine s_if_eq (tgt := 26) C dX9_conditionsTold_19 (by decide) (fun q11 => ?_) (fun q11 => ?_)
        · refine s_iconst C dX9_conditionsTold_26 (by decide) (fun z12 tz12 => ?_)
          refine s_iadd C dX9_conditionsTold_27 (by omega) (fun z13 tz13 => ?_)
          refine s_istore_n C dX9_conditionsTold_28 (by decide) (Nat.le_of_ble_eq_true rfl) rfl ?_
          show WP E ad 29 [some (.ref (ad 0)), some (.int z13), some (.int z8)] [] σ
          refine s_iinc C dX9_conditionsTold_29 rfl (by decide) rfl (by decide) (by omega) (fun z14 tz14 => ?_)
          show WP E ad 32 [some (.ref (ad 0)), some (.int z13), some (.int z14)] [] σ
          refine s_goto (tgt := 4) C dX9_conditionsTold_32 (by decide) ?_
          refine s_iload_n C dX9_conditionsTold_4 rfl ?_
          refine s_iconst C dX9_conditionsTold_5 (by decide) (fun z15 tz15 => ?_)
          refine s_icmp_ge (tgt := 35) C dX9_conditionsTold_6 (by decide) (fun q16 => ?_) (fun q16 => ?_)
          · omega
          · refine s_iload_n C dX9_conditionsTold_9 rfl ?_
            refine s_aload_n C dX9_conditionsTold_10 rfl ?_
            refine s_getr (k := 2) (j := 27) C y0 fw_X9_23 rfl dX9_conditionsTold_11 ?_
            refine s_iload_n C dX9_conditionsTold_14 rfl ?_
            refine s_aald (kd := 0) C y27 ⟨_, rfl⟩ (by omega) dX9_conditionsTold_15 ?_
            rw [show z14.toNatClampNeg = 2 by unfold Int32.toNatClampNeg; omega]
            refine s_get (k := 0) (x := (σ.1 33 0)) C y33 fw_X9_91 rfl rfl dX9_conditionsTold_16 ?_
            refine s_if_eq (tgt := 26) C dX9_conditionsTold_19 (by decide) (fun q17 => ?_) (fun q17 => ?_)
            · refine s_iconst C dX9_conditionsTold_26 (by decide) (fun z18 tz18 => ?_)
              refine s_iadd C dX9_conditionsTold_27 (by omega) (fun z19 tz19 => ?_)
              refine s_istore_n C dX9_conditionsTold_28 (by decide) (Nat.le_of_ble_eq_true rfl) rfl ?_
              show WP E ad 29 [some (.ref (ad 0)), some (.int z19), some (.int z14)] [] σ
              refine s_iinc C dX9_conditionsTold_29 rfl (by decide) rfl (by decide) (by omega) (fun z20 tz20 => ?_)
              show WP E ad 32 [some (.ref (ad 0)), some (.int z19), some (.int z20)] [] σ
              refine s_goto (tgt := 4) C dX9_conditionsTold_32 (by decide) ?_
              refine s_iload_n C dX9_conditionsTold_4 rfl ?_
              refine s_iconst C dX9_conditionsTold_5 (by decide) (fun z21 tz21 => ?_)
              refine s_icmp_ge (tgt := 35) C dX9_conditionsTold_6 (by decide) (fun q22 => ?_) (fun q22 => ?_)
              · refine s_iload_n C dX9_conditionsTold_35 rfl ?_
                exact s_iret C X dX9_conditionsTold_36 ⟨rfl, trivial⟩
              · omega
            · refine s_iconst C dX9_conditionsTold_22 (by decide) (fun z23 tz23 => ?_)
              refine s_goto (tgt := 27) C dX9_conditionsTold_23 (by decide) ?_
              refine s_iadd C dX9_conditionsTold_27 (by omega) (fun z24 tz24 => ?_)
              refine s_istore_n C dX9_conditionsTold_28 (by decide) (Nat.le_of_ble_eq_true rfl) rfl ?_
              show WP E ad 29 [some (.ref (ad 0)), some (.int z24), some (.int z14)] [] σ
              refine s_iinc C dX9_conditionsTold_29 rfl (by decide) rfl (by decide) (by omega) (fun z25 tz25 => ?_)
              show WP E ad 32 [some (.ref (ad 0)), some (.int z24), some (.int z25)] [] σ
              refine s_goto (tgt := 4) C dX9_conditionsTold_32 (by decide) ?_
              refine s_iload_n C dX9_conditionsTold_4 rfl ?_
              refine s_iconst C dX9_conditionsTold_5 (by decide) (fun z26 tz26 => ?_)
              refine s_icmp_ge (tgt := 35) C dX9_conditionsTold_6 (by decide) (fun q27 => ?_) (fun q27 => ?_)
              · refine s_iload_n C dX9_conditionsTold_35 rfl ?_
                exact s_iret C X dX9_conditionsTold_36 ⟨rfl, trivial⟩
              · omega
        · refine s_iconst C dX9_conditionsTold_22 (by decide) (fun z28 tz28 => ?_)
          refine s_goto (tgt := 27) C dX9_conditionsTold_23 (by decide) ?_
          refine s_iadd C dX9_conditionsTold_27 (by omega) (fun z29 tz29 => ?_)
          refine s_istore_n C dX9_conditionsTold_28 (by decide) (Nat.le_of_ble_eq_true rfl) rfl ?_
          show WP E ad 29 [some (.ref (ad 0)), some (.int z29), some (.int z8)] [] σ
          refine s_iinc C dX9_conditionsTold_29 rfl (by decide) rfl (by decide) (by omega) (fun z30 tz30 => ?_)
          show WP E ad 32 [some (.ref (ad 0)), some (.int z29), some (.int z30)] [] σ
          refine s_goto (tgt := 4) C dX9_conditionsTold_32 (by decide) ?_
          refine s_iload_n C dX9_conditionsTold_4 rfl ?_
          refine s_iconst C dX9_conditionsTold_5 (by decide) (fun z31 tz31 => ?_)
          refine s_icmp_ge (tgt := 35) C dX9_conditionsTold_6 (by decide) (fun q32 => ?_) (fun q32 => ?_)
          · omega
          · refine s_iload_n C dX9_conditionsTold_9 rfl ?_
            refine s_aload_n C dX9_conditionsTold_10 rfl ?_
            refine s_getr (k := 2) (j := 27) C y0 fw_X9_23 rfl dX9_conditionsTold_11 ?_
            refine s_iload_n C dX9_conditionsTold_14 rfl ?_
            refine s_aald (kd := 0) C y27 ⟨_, rfl⟩ (by omega) dX9_conditionsTold_15 ?_
            rw [show z30.toNatClampNeg = 2 by unfold Int32.toNatClampNeg; omega]
            refine s_get (k := 0) (x := (σ.1 33 0)) C y33 fw_X9_91 rfl rfl dX9_conditionsTold_16 ?_
            refine s_if_eq (tgt := 26) C dX9_conditionsTold_19 (by decide) (fun q33 => ?_) (fun q33 => ?_)
            · refine s_iconst C dX9_conditionsTold_26 (by decide) (fun z34 tz34 => ?_)
              refine s_iadd C dX9_conditionsTold_27 (by omega) (fun z35 tz35 => ?_)
              refine s_istore_n C dX9_conditionsTold_28 (by decide) (Nat.le_of_ble_eq_true rfl) rfl ?_
              show WP E ad 29 [some (.ref (ad 0)), some (.int z35), some (.int z30)] [] σ
              refine s_iinc C dX9_conditionsTold_29 rfl (by decide) rfl (by decide) (by omega) (fun z36 tz36 => ?_)
              show WP E ad 32 [some (.ref (ad 0)), some (.int z35), some (.int z36)] [] σ
              refine s_goto (tgt := 4) C dX9_conditionsTold_32 (by decide) ?_
              refine s_iload_n C dX9_conditionsTold_4 rfl ?_
              refine s_iconst C dX9_conditionsTold_5 (by decide) (fun z37 tz37 => ?_)
              refine s_icmp_ge (tgt := 35) C dX9_conditionsTold_6 (by decide) (fun q38 => ?_) (fun q38 => ?_)
              · refine s_iload_n C dX9_conditionsTold_35 rfl ?_
                exact s_iret C X dX9_conditionsTold_36 ⟨rfl, trivial⟩
              · omega
            · refine s_iconst C dX9_conditionsTold_22 (by decide) (fun z39 tz39 => ?_)
              refine s_goto (tgt := 27) C dX9_conditionsTold_23 (by decide) ?_
              refine s_iadd C dX9_conditionsTold_27 (by omega) (fun z40 tz40 => ?_)
              refine s_istore_n C dX9_conditionsTold_28 (by decide) (Nat.le_of_ble_eq_true rfl) rfl ?_
              show WP E ad 29 [some (.ref (ad 0)), some (.int z40), some (.int z30)] [] σ
              refine s_iinc C dX9_conditionsTold_29 rfl (by decide) rfl (by decide) (by omega) (fun z41 tz41 => ?_)
              show WP E ad 32 [some (.ref (ad 0)), some (.int z40), some (.int z41)] [] σ
              refine s_goto (tgt := 4) C dX9_conditionsTold_32 (by decide) ?_
              refine s_iload_n C dX9_conditionsTold_4 rfl ?_
              refine s_iconst C dX9_conditionsTold_5 (by decide) (fun z42 tz42 => ?_)
              refine s_icmp_ge (tgt := 35) C dX9_conditionsTold_6 (by decide) (fun q43 => ?_) (fun q43 => ?_)
              · refine s_iload_n C dX9_conditionsTold_35 rfl ?_
                exact s_iret C X dX9_conditionsTold_36 ⟨rfl, trivial⟩
              · omega
    · refine s_iconst C dX9_conditionsTold_22 (by decide) (fun z44 tz44 => ?_)
      refine s_goto (tgt := 27) C dX9_conditionsTold_23 (by decide) ?_
      refine s_iadd C dX9_conditionsTold_27 (by omega) (fun z45 tz45 => ?_)
      refine s_istore_n C dX9_conditionsTold_28 (by decide) (Nat.le_of_ble_eq_true rfl) rfl ?_
      show WP E ad 29 [some (.ref (ad 0)), some (.int z45), some (.int z2)] [] σ
      refine s_iinc C dX9_conditionsTold_29 rfl (by decide) rfl (by decide) (by omega) (fun z46 tz46 => ?_)
      show WP E ad 32 [some (.ref (ad 0)), some (.int z45), some (.int z46)] [] σ
      refine s_goto (tgt := 4) C dX9_conditionsTold_32 (by decide) ?_
      refine s_iload_n C dX9_conditionsTold_4 rfl ?_
      refine s_iconst C dX9_conditionsTold_5 (by decide) (fun z47 tz47 => ?_)
      refine s_icmp_ge (tgt := 35) C dX9_conditionsTold_6 (by decide) (fun q48 => ?_) (fun q48 => ?_)
      · omega
      · refine s_iload_n C dX9_conditionsTold_9 rfl ?_
        refine s_aload_n C dX9_conditionsTold_10 rfl ?_
        refine s_getr (k := 2) (j := 27) C y0 fw_X9_23 rfl dX9_conditionsTold_11 ?_
        refine s_iload_n C dX9_conditionsTold_14 rfl ?_
        refine s_aald (kd := 0) C y27 ⟨_, rfl⟩ (by omega) dX9_conditionsTold_15 ?_
        rw [show z46.toNatClampNeg = 1 by unfold Int32.toNatClampNeg; omega]
        refine s_get (k := 0) (x := (σ.1 32 0)) C y32 fw_X9_91 rfl rfl dX9_conditionsTold_16 ?_
        refine s_if_eq (tgt := 26) C dX9_conditionsTold_19 (by decide) (fun q49 => ?_) (fun q49 => ?_)
        · refine s_iconst C dX9_conditionsTold_26 (by decide) (fun z50 tz50 => ?_)
          refine s_iadd C dX9_conditionsTold_27 (by omega) (fun z51 tz51 => ?_)
          refine s_istore_n C dX9_conditionsTold_28 (by decide) (Nat.le_of_ble_eq_true rfl) rfl ?_
          show WP E ad 29 [some (.ref (ad 0)), some (.int z51), some (.int z46)] [] σ
          refine s_iinc C dX9_conditionsTold_29 rfl (by decide) rfl (by decide) (by omega) (fun z52 tz52 => ?_)
          show WP E ad 32 [some (.ref (ad 0)), some (.int z51), some (.int z52)] [] σ
          refine s_goto (tgt := 4) C dX9_conditionsTold_32 (by decide) ?_
          refine s_iload_n C dX9_conditionsTold_4 rfl ?_
          refine s_iconst C dX9_conditionsTold_5 (by decide) (fun z53 tz53 => ?_)
          refine s_icmp_ge (tgt := 35) C dX9_conditionsTold_6 (by decide) (fun q54 => ?_) (fun q54 => ?_)
          · omega
          · refine s_iload_n C dX9_conditionsTold_9 rfl ?_
            refine s_aload_n C dX9_conditionsTold_10 rfl ?_
            refine s_getr (k := 2) (j := 27) C y0 fw_X9_23 rfl dX9_conditionsTold_11 ?_
            refine s_iload_n C dX9_conditionsTold_14 rfl ?_
            refine s_aald (kd := 0) C y27 ⟨_, rfl⟩ (by omega) dX9_conditionsTold_15 ?_
            rw [show z52.toNatClampNeg = 2 by unfold Int32.toNatClampNeg; omega]
            refine s_get (k := 0) (x := (σ.1 33 0)) C y33 fw_X9_91 rfl rfl dX9_conditionsTold_16 ?_
            refine s_if_eq (tgt := 26) C dX9_conditionsTold_19 (by decide) (fun q55 => ?_) (fun q55 => ?_)
            · refine s_iconst C dX9_conditionsTold_26 (by decide) (fun z56 tz56 => ?_)
              refine s_iadd C dX9_conditionsTold_27 (by omega) (fun z57 tz57 => ?_)
              refine s_istore_n C dX9_conditionsTold_28 (by decide) (Nat.le_of_ble_eq_true rfl) rfl ?_
              show WP E ad 29 [some (.ref (ad 0)), some (.int z57), some (.int z52)] [] σ
              refine s_iinc C dX9_conditionsTold_29 rfl (by decide) rfl (by decide) (by omega) (fun z58 tz58 => ?_)
              show WP E ad 32 [some (.ref (ad 0)), some (.int z57), some (.int z58)] [] σ
              refine s_goto (tgt := 4) C dX9_conditionsTold_32 (by decide) ?_
              refine s_iload_n C dX9_conditionsTold_4 rfl ?_
              refine s_iconst C dX9_conditionsTold_5 (by decide) (fun z59 tz59 => ?_)
              refine s_icmp_ge (tgt := 35) C dX9_conditionsTold_6 (by decide) (fun q60 => ?_) (fun q60 => ?_)
              · refine s_iload_n C dX9_conditionsTold_35 rfl ?_
                exact s_iret C X dX9_conditionsTold_36 ⟨rfl, trivial⟩
              · omega
            · refine s_iconst C dX9_conditionsTold_22 (by decide) (fun z61 tz61 => ?_)
              refine s_goto (tgt := 27) C dX9_conditionsTold_23 (by decide) ?_
              refine s_iadd C dX9_conditionsTold_27 (by omega) (fun z62 tz62 => ?_)
              refine s_istore_n C dX9_conditionsTold_28 (by decide) (Nat.le_of_ble_eq_true rfl) rfl ?_
              show WP E ad 29 [some (.ref (ad 0)), some (.int z62), some (.int z52)] [] σ
              refine s_iinc C dX9_conditionsTold_29 rfl (by decide) rfl (by decide) (by omega) (fun z63 tz63 => ?_)
              show WP E ad 32 [some (.ref (ad 0)), some (.int z62), some (.int z63)] [] σ
              refine s_goto (tgt := 4) C dX9_conditionsTold_32 (by decide) ?_
              refine s_iload_n C dX9_conditionsTold_4 rfl ?_
              refine s_iconst C dX9_conditionsTold_5 (by decide) (fun z64 tz64 => ?_)
              refine s_icmp_ge (tgt := 35) C dX9_conditionsTold_6 (by decide) (fun q65 => ?_) (fun q65 => ?_)
              · refine s_iload_n C dX9_conditionsTold_35 rfl ?_
                exact s_iret C X dX9_conditionsTold_36 ⟨rfl, trivial⟩
              · omega
        · refine s_iconst C dX9_conditionsTold_22 (by decide) (fun z66 tz66 => ?_)
          refine s_goto (tgt := 27) C dX9_conditionsTold_23 (by decide) ?_
          refine s_iadd C dX9_conditionsTold_27 (by omega) (fun z67 tz67 => ?_)
          refine s_istore_n C dX9_conditionsTold_28 (by decide) (Nat.le_of_ble_eq_true rfl) rfl ?_
          show WP E ad 29 [some (.ref (ad 0)), some (.int z67), some (.int z46)] [] σ
          refine s_iinc C dX9_conditionsTold_29 rfl (by decide) rfl (by decide) (by omega) (fun z68 tz68 => ?_)
          show WP E ad 32 [some (.ref (ad 0)), some (.int z67), some (.int z68)] [] σ
          refine s_goto (tgt := 4) C dX9_conditionsTold_32 (by decide) ?_
          refine s_iload_n C dX9_conditionsTold_4 rfl ?_
          refine s_iconst C dX9_conditionsTold_5 (by decide) (fun z69 tz69 => ?_)
          refine s_icmp_ge (tgt := 35) C dX9_conditionsTold_6 (by decide) (fun q70 => ?_) (fun q70 => ?_)
          · omega
          · refine s_iload_n C dX9_conditionsTold_9 rfl ?_
            refine s_aload_n C dX9_conditionsTold_10 rfl ?_
            refine s_getr (k := 2) (j := 27) C y0 fw_X9_23 rfl dX9_conditionsTold_11 ?_
            refine s_iload_n C dX9_conditionsTold_14 rfl ?_
            refine s_aald (kd := 0) C y27 ⟨_, rfl⟩ (by omega) dX9_conditionsTold_15 ?_
            rw [show z68.toNatClampNeg = 2 by unfold Int32.toNatClampNeg; omega]
            refine s_get (k := 0) (x := (σ.1 33 0)) C y33 fw_X9_91 rfl rfl dX9_conditionsTold_16 ?_
            refine s_if_eq (tgt := 26) C dX9_conditionsTold_19 (by decide) (fun q71 => ?_) (fun q71 => ?_)
            · refine s_iconst C dX9_conditionsTold_26 (by decide) (fun z72 tz72 => ?_)
              refine s_iadd C dX9_conditionsTold_27 (by omega) (fun z73 tz73 => ?_)
              refine s_istore_n C dX9_conditionsTold_28 (by decide) (Nat.le_of_ble_eq_true rfl) rfl ?_
              show WP E ad 29 [some (.ref (ad 0)), some (.int z73), some (.int z68)] [] σ
              refine s_iinc C dX9_conditionsTold_29 rfl (by decide) rfl (by decide) (by omega) (fun z74 tz74 => ?_)
              show WP E ad 32 [some (.ref (ad 0)), some (.int z73), some (.int z74)] [] σ
              refine s_goto (tgt := 4) C dX9_conditionsTold_32 (by decide) ?_
              refine s_iload_n C dX9_conditionsTold_4 rfl ?_
              refine s_iconst C dX9_conditionsTold_5 (by decide) (fun z75 tz75 => ?_)
              refine s_icmp_ge (tgt := 35) C dX9_conditionsTold_6 (by decide) (fun q76 => ?_) (fun q76 => ?_)
              · refine s_iload_n C dX9_conditionsTold_35 rfl ?_
                exact s_iret C X dX9_conditionsTold_36 ⟨rfl, trivial⟩
              · omega
            · refine s_iconst C dX9_conditionsTold_22 (by decide) (fun z77 tz77 => ?_)
              refine s_goto (tgt := 27) C dX9_conditionsTold_23 (by decide) ?_
              refine s_iadd C dX9_conditionsTold_27 (by omega) (fun z78 tz78 => ?_)
              refine s_istore_n C dX9_conditionsTold_28 (by decide) (Nat.le_of_ble_eq_true rfl) rfl ?_
              show WP E ad 29 [some (.ref (ad 0)), some (.int z78), some (.int z68)] [] σ
              refine s_iinc C dX9_conditionsTold_29 rfl (by decide) rfl (by decide) (by omega) (fun z79 tz79 => ?_)
              show WP E ad 32 [some (.ref (ad 0)), some (.int z78), some (.int z79)] [] σ
              refine s_goto (tgt := 4) C dX9_conditionsTold_32 (by decide) ?_
              refine s_iload_n C dX9_conditionsTold_4 rfl ?_
              refine s_iconst C dX9_conditionsTold_5 (by decide) (fun z80 tz80 => ?_)
              refine s_icmp_ge (tgt := 35) C dX9_conditionsTold_6 (by decide) (fun q81 => ?_) (fun q81 => ?_)
              · refine s_iload_n C dX9_conditionsTold_35 rfl ?_
                exact s_iret C X dX9_conditionsTold_36 ⟨rfl, trivial⟩
              · omega
set_option maxRecDepth 100000 in
theorem c_X9_listsThere (l : Launch) (ad : Nat → Nat) (σ : Sg)   : Mt l yX9_listsThere cX9_listsThere 3 (some .int) 1 ad σ [.ref (ad 0)] (oI (fun r τ => τ = σ ∧ True)) := by
  refine Mt_intro (by decide +kernel) (by simp [lg_sl, Value.category]) (fun E C X => ?_)
  show WP E ad 0 [some (.ref (ad 0)), none, none] [] σ
  refine s_iconst C dX9_listsThere_0 (by decide) (fun z1 tz1 => ?_)
  refine s_istore_n C dX9_listsThere_1 (by decide) (Nat.le_of_ble_eq_true rfl) rfl ?_
  show WP E ad 2 [some (.ref (ad 0)), some (.int z1), none] [] σ
  refine s_iconst C dX9_listsThere_2 (by decide) (fun z2 tz2 => ?_)
  refine s_istore_n C dX9_listsThere_3 (by decide) (Nat.le_of_ble_eq_true rfl) rfl ?_
  show WP E ad 4 [some (.ref (ad 0)), some (.int z1), some (.int z2)] [] σ
  refine s_iload_n C dX9_listsThere_4 rfl ?_
  refine s_iconst C dX9_listsThere_5 (by decide) (fun z3 tz3 => ?_)
  refine s_icmp_ge (tgt := 35) C dX9_listsThere_6 (by decide) (fun q4 => ?_) (fun q4 => ?_)
  · omega
  · refine s_iload_n C dX9_listsThere_9 rfl ?_
    refine s_aload_n C dX9_listsThere_10 rfl ?_
    refine s_getr (k := 5) (j := 30) C y0 fw_X9_38 rfl dX9_listsThere_11 ?_
    refine s_iload_n C dX9_listsThere_14 rfl ?_
    refine s_aald (kd := 2) C y30 ⟨_, rfl⟩ (by omega) dX9_listsThere_15 ?_
    rw [show z2.toNatClampNeg = 0 by unfold Int32.toNatClampNeg; omega]
    refine s_callVI (st := [.int z1]) C (c_X3_isMissing_0 l ad σ  ) cv_X9_309 y40 rfl rfl rfl ⟨by decide, by decide⟩ (Nat.le_of_ble_eq_true rfl) dX9_listsThere_16 ?_
    intro r5 τ6 h7
    obtain ⟨eh7, h7⟩ := h7; replace eh7 := eh7.symm; subst eh7
    refine s_if_eq (tgt := 26) C dX9_listsThere_19 (by decide) (fun q8 => ?_) (fun q8 => ?_)
    · refine s_iconst C dX9_listsThere_26 (by decide) (fun z9 tz9 => ?_)
      refine s_iadd C dX9_listsThere_27 (by omega) (fun z10 tz10 => ?_)
      refine s_istore_n C dX9_listsThere_28 (by decide) (Nat.le_of_ble_eq_true rfl) rfl ?_
      show WP E ad 29 [some (.ref (ad 0)), some (.int z10), some (.int z2)] [] σ
      refine s_iinc C dX9_listsThere_29 rfl (by decide) rfl (by decide) (by omega) (fun z11 tz11 => ?_)
      show WP E ad 32 [some (.ref (ad 0)), some (.int z10), some (.int z11)] [] σ
      refine s_goto (tgt := 4) C dX9_listsThere_32 (by decide) ?_
      refine s_iload_n C dX9_listsThere_4 rfl ?_
      refine s_iconst C dX9_listsThere_5 (by decide) (fun z12 tz12 => ?_)
      refine s_icmp_ge (tgt := 35) C dX9_listsThere_6 (by decide) (fun q13 => ?_) (fun q13 => ?_)
      · omega
      · refine s_iload_n C dX9_listsThere_9 rfl ?_
        refine s_aload_n C dX9_listsThere_10 rfl ?_
        refine s_getr (k := 5) (j := 30) C y0 fw_X9_38 rfl dX9_listsThere_11 ?_
        refine s_iload_n C dX9_listsThere_14 rfl ?_
        refine s_aald (kd := 2) C y30 ⟨_, rfl⟩ (by omega) dX9_listsThere_15 ?_
        rw [show z11.toNatClampNeg = 1 by unfold Int32.toNatClampNeg; omega]
        refine s_callVI (st := [.int z10]) C (c_X3_isMissing_1 l ad σ  ) cv_X9_309 y41 rfl rfl rfl ⟨by decide, by decide⟩ (Nat.le_of_ble_eq_true rfl) dX9_listsThere_16 ?_
        intro r14 τ15 h16
        obtain ⟨eh16, h16⟩ := h16; replace eh16 := eh16.symm; subst eh16
        refine s_if_eq (tgt := 26) C dX9_listsThere_19 (by decide) (fun q17 => ?_) (fun q17 => ?_)
        · refine s_iconst C dX9_listsThere_26 (by decide) (fun z18 tz18 => ?_)
          refine s_iadd C dX9_listsThere_27 (by omega) (fun z19 tz19 => ?_)
          refine s_istore_n C dX9_listsThere_28 (by decide) (Nat.le_of_ble_eq_true rfl) rfl ?_
          show WP E ad 29 [some (.ref (ad 0)), some (.int z19), some (.int z11)] [] σ
          refine s_iinc C dX9_listsThere_29 rfl (by decide) rfl (by decide) (by omega) (fun z20 tz20 => ?_)
          show WP E ad 32 [some (.ref (ad 0)), some (.int z19), some (.int z20)] [] σ
          refine s_goto (tgt := 4) C dX9_listsThere_32 (by decide) ?_
          refine s_iload_n C dX9_listsThere_4 rfl ?_
          refine s_iconst C dX9_listsThere_5 (by decide) (fun z21 tz21 => ?_)
          refine s_icmp_ge (tgt := 35) C dX9_listsThere_6 (by decide) (fun q22 => ?_) (fun q22 => ?_)
          · omega
          · refine s_iload_n C dX9_listsThere_9 rfl ?_
            refine s_aload_n C dX9_listsThere_10 rfl ?_
            refine s_getr (k := 5) (j := 30) C y0 fw_X9_38 rfl dX9_listsThere_11 ?_
            refine s_iload_n C dX9_listsThere_14 rfl ?_
            refine s_aald (kd := 2) C y30 ⟨_, rfl⟩ (by omega) dX9_listsThere_15 ?_
            rw [show z20.toNatClampNeg = 2 by unfold Int32.toNatClampNeg; omega]
            refine s_callVI (st := [.int z19]) C (c_X3_isMissing_2 l ad σ  ) cv_X9_309 y42 rfl rfl rfl ⟨by decide, by decide⟩ (Nat.le_of_ble_eq_true rfl) dX9_listsThere_16 ?_
            intro r23 τ24 h25
            obtain ⟨eh25, h25⟩ := h25; replace eh25 := eh25.symm; subst eh25
            refine s_if_eq (tgt := 26) C dX9_listsThere_19 (by decide) (fun q26 => ?_) (fun q26 => ?_)
            · refine s_iconst C dX9_listsThere_26 (by decide) (fun z27 tz27 => ?_)
              refine s_iadd C dX9_listsThere_27 (by omega) (fun z28 tz28 => ?_)
              refine s_istore_n C dX9_listsThere_28 (by decide) (Nat.le_of_ble_eq_true rfl) rfl ?_
              show WP E ad 29 [some (.ref (ad 0)), some (.int z28), some (.int z20)] [] σ
              refine s_iinc C dX9_listsThere_29 rfl (by decide) rfl (by decide) (by omega) (fun z29 tz29 => ?_)
              show WP E ad 32 [some (.ref (ad 0)), some (.int z28), some (.int z29)] [] σ
              refine s_goto (tgt := 4) C dX9_listsThere_32 (by decide) ?_
              refine s_iload_n C dX9_listsThere_4 rfl ?_
              refine s_iconst C dX9_listsThere_5 (by decide) (fun z30 tz30 => ?_)
              refine s_icmp_ge (tgt := 35) C dX9_listsThere_6 (by decide) (fun q31 => ?_) (fun q31 => ?_)
              · refine s_iload_n C dX9_listsThere_35 rfl ?_
                exact s_iret C X dX9_listsThere_36 ⟨rfl, trivial⟩
              · omega
            · refine s_iconst C dX9_listsThere_22 (by decide) (fun z32 tz32 => ?_)
              refine s_goto (tgt := 27) C dX9_listsThere_23 (by decide) ?_
              refine s_iadd C dX9_listsThere_27 (by omega) (fun z33 tz33 => ?_)
              refine s_istore_n C dX9_listsThere_28 (by decide) (Nat.le_of_ble_eq_true rfl) rfl ?_
              show WP E ad 29 [some (.ref (ad 0)), some (.int z33), some (.int z20)] [] σ
              refine s_iinc C dX9_listsThere_29 rfl (by decide) rfl (by decide) (by omega) (fun z34 tz34 => ?_)
              show WP E ad 32 [some (.ref (ad 0)), some (.int z33), some (.int z34)] [] σ
              refine s_goto (tgt := 4) C dX9_listsThere_32 (by decide) ?_
              refine s_iload_n C dX9_listsThere_4 rfl ?_
              refine s_iconst C dX9_listsThere_5 (by decide) (fun z35 tz35 => ?_)
              refine s_icmp_ge (tgt := 35) C dX9_listsThere_6 (by decide) (fun q36 => ?_) (fun q36 => ?_)
              · refine s_iload_n C dX9_listsThere_35 rfl ?_
                exact s_iret C X dX9_listsThere_36 ⟨rfl, trivial⟩
              · omega
        · refine s_iconst C dX9_listsThere_22 (by decide) (fun z37 tz37 => ?_)
          refine s_goto (tgt := 27) C dX9_listsThere_23 (by decide) ?_
          refine s_iadd C dX9_listsThere_27 (by omega) (fun z38 tz38 => ?_)
          refine s_istore_n C dX9_listsThere_28 (by decide) (Nat.le_of_ble_eq_true rfl) rfl ?_
          show WP E ad 29 [some (.ref (ad 0)), some (.int z38), some (.int z11)] [] σ
          refine s_iinc C dX9_listsThere_29 rfl (by decide) rfl (by decide) (by omega) (fun z39 tz39 => ?_)
          show WP E ad 32 [some (.ref (ad 0)), some (.int z38), some (.int z39)] [] σ
          refine s_goto (tgt := 4) C dX9_listsThere_32 (by decide) ?_
          refine s_iload_n C dX9_listsThere_4 rfl ?_
          refine s_iconst C dX9_listsThere_5 (by decide) (fun z40 tz40 => ?_)
          refine s_icmp_ge (tgt := 35) C dX9_listsThere_6 (by decide) (fun q41 => ?_) (fun q41 => ?_)
          · omega
          · refine s_iload_n C dX9_listsThere_9 rfl ?_
            refine s_aload_n C dX9_listsThere_10 rfl ?_
            refine s_getr (k := 5) (j := 30) C y0 fw_X9_38 rfl dX9_listsThere_11 ?_
            refine s_iload_n C dX9_listsThere_14 rfl ?_
            refine s_aald (kd := 2) C y30 ⟨_, rfl⟩ (by omega) dX9_listsThere_15 ?_
            rw [show z39.toNatClampNeg = 2 by unfold Int32.toNatClampNeg; omega]
            refine s_callVI (st := [.int z38]) C (c_X3_isMissing_2 l ad σ  ) cv_X9_309 y42 rfl rfl rfl ⟨by decide, by decide⟩ (Nat.le_of_ble_eq_true rfl) dX9_listsThere_16 ?_
            intro r42 τ43 h44
            obtain ⟨eh44, h44⟩ := h44; replace eh44 := eh44.symm; subst eh44
            refine s_if_eq (tgt := 26) C dX9_listsThere_19 (by decide) (fun q45 => ?_) (fun q45 => ?_)
            · refine s_iconst C dX9_listsThere_26 (by decide) (fun z46 tz46 => ?_)
              refine s_iadd C dX9_listsThere_27 (by omega) (fun z47 tz47 => ?_)
              refine s_istore_n C dX9_listsThere_28 (by decide) (Nat.le_of_ble_eq_true rfl) rfl ?_
              show WP E ad 29 [some (.ref (ad 0)), some (.int z47), some (.int z39)] [] σ
              refine s_iinc C dX9_listsThere_29 rfl (by decide) rfl (by decide) (by omega) (fun z48 tz48 => ?_)
              show WP E ad 32 [some (.ref (ad 0)), some (.int z47), some (.int z48)] [] σ
              refine s_goto (tgt := 4) C dX9_listsThere_32 (by decide) ?_
              refine s_iload_n C dX9_listsThere_4 rfl ?_
              refine s_iconst C dX9_listsThere_5 (by decide) (fun z49 tz49 => ?_)
              refine s_icmp_ge (tgt := 35) C dX9_listsThere_6 (by decide) (fun q50 => ?_) (fun q50 => ?_)
              · refine s_iload_n C dX9_listsThere_35 rfl ?_
                exact s_iret C X dX9_listsThere_36 ⟨rfl, trivial⟩
              · omega
            · refine s_iconst C dX9_listsThere_22 (by decide) (fun z51 tz51 => ?_)
              refine s_goto (tgt := 27) C dX9_listsThere_23 (by decide) ?_
              refine s_iadd C dX9_listsThere_27 (by omega) (fun z52 tz52 => ?_)
              refine s_istore_n C dX9_listsThere_28 (by decide) (Nat.le_of_ble_eq_true rfl) rfl ?_
              show WP E ad 29 [some (.ref (ad 0)), some (.int z52), some (.int z39)] [] σ
              refine s_iinc C dX9_listsThere_29 rfl (by decide) rfl (by decide) (by omega) (fun z53 tz53 => ?_)
              show WP E ad 32 [some (.ref (ad 0)), some (.int z52), some (.int z53)] [] σ
              refine s_goto (tgt := 4) C dX9_listsThere_32 (by decide) ?_
              refine s_iload_n C dX9_listsThere_4 rfl ?_
              refine s_iconst C dX9_listsThere_5 (by decide) (fun z54 tz54 => ?_)
              refine s_icmp_ge (tgt := 35) C dX9_listsThere_6 (by decide) (fun q55 => ?_) (fun q55 => ?_)
              · refine s_iload_n C dX9_listsThere_35 rfl ?_
                exact s_iret C X dX9_listsThere_36 ⟨rfl, trivial⟩
              · omega
    · refine s_iconst C dX9_listsThere_22 (by decide) (fun z56 tz56 => ?_)
      refine s_goto (tgt := 27) C dX9_listsThere_23 (by decide) ?_
      refine s_iadd C dX9_listsThere_27 (by omega) (fun z57 tz57 => ?_)
      refine s_istore_n C dX9_listsThere_28 (by decide) (Nat.le_of_ble_eq_true rfl) rfl ?_
      show WP E ad 29 [some (.ref (ad 0)), some (.int z57), some (.int z2)] [] σ
      refine s_iinc C dX9_listsThere_29 rfl (by decide) rfl (by decide) (by omega) (fun z58 tz58 => ?_)
      show WP E ad 32 [some (.ref (ad 0)), some (.int z57), some (.int z58)] [] σ
      refine s_goto (tgt := 4) C dX9_listsThere_32 (by decide) ?_
      refine s_iload_n C dX9_listsThere_4 rfl ?_
      refine s_iconst C dX9_listsThere_5 (by decide) (fun z59 tz59 => ?_)
      refine s_icmp_ge (tgt := 35) C dX9_listsThere_6 (by decide) (fun q60 => ?_) (fun q60 => ?_)
      · omega
      · refine s_iload_n C dX9_listsThere_9 rfl ?_
        refine s_aload_n C dX9_listsThere_10 rfl ?_
        refine s_getr (k := 5) (j := 30) C y0 fw_X9_38 rfl dX9_listsThere_11 ?_
        refine s_iload_n C dX9_listsThere_14 rfl ?_
        refine s_aald (kd := 2) C y30 ⟨_, rfl⟩ (by omega) dX9_listsThere_15 ?_
        rw [show z58.toNatClampNeg = 1 by unfold Int32.toNatClampNeg; omega]
        refine s_callVI (st := [.int z57]) C (c_X3_isMissing_1 l ad σ  ) cv_X9_309 y41 rfl rfl rfl ⟨by decide, by decide⟩ (Nat.le_of_ble_eq_true rfl) dX9_listsThere_16 ?_
        intro r61 τ62 h63
        obtain ⟨eh63, h63⟩ := h63; replace eh63 := eh63.symm; subst eh63
        refine s_if_eq (tgt := 26) C dX9_listsThere_19 (by decide) (fun q64 => ?_) (fun q64 => ?_)
        · refine s_iconst C dX9_listsThere_26 (by decide) (fun z65 tz65 => ?_)
          refine s_iadd C dX9_listsThere_27 (by omega) (fun z66 tz66 => ?_)
          refine s_istore_n C dX9_listsThere_28 (by decide) (Nat.le_of_ble_eq_true rfl) rfl ?_
          show WP E ad 29 [some (.ref (ad 0)), some (.int z66), some (.int z58)] [] σ
          refine s_iinc C dX9_listsThere_29 rfl (by decide) rfl (by decide) (by omega) (fun z67 tz67 => ?_)
          show WP E ad 32 [some (.ref (ad 0)), some (.int z66), some (.int z67)] [] σ
          refine s_goto (tgt := 4) C dX9_listsThere_32 (by decide) ?_
          refine s_iload_n C dX9_listsThere_4 rfl ?_
          refine s_iconst C dX9_listsThere_5 (by decide) (fun z68 tz68 => ?_)
          refine s_icmp_ge (tgt := 35) C dX9_listsThere_6 (by decide) (fun q69 => ?_) (fun q69 => ?_)
          · omega
          · refine s_iload_n C dX9_listsThere_9 rfl ?_
            refine s_aload_n C dX9_listsThere_10 rfl ?_
            refine s_getr (k := 5) (j := 30) C y0 fw_X9_38 rfl dX9_listsThere_11 ?_
            refine s_iload_n C dX9_listsThere_14 rfl ?_
            refine s_aald (kd := 2) C y30 ⟨_, rfl⟩ (by omega) dX9_listsThere_15 ?_
            rw [show z67.toNatClampNeg = 2 by unfold Int32.toNatClampNeg; omega]
            refine s_callVI (st := [.int z66]) C (c_X3_isMissing_2 l ad σ  ) cv_X9_309 y42 rfl rfl rfl ⟨by decide, by decide⟩ (Nat.le_of_ble_eq_true rfl) dX9_listsThere_16 ?_
            intro r70 τ71 h72
            obtain ⟨eh72, h72⟩ := h72; replace eh72 := eh72.symm; subst eh72
            refine s_if_eq (tgt := 26) C dX9_listsThere_19 (by decide) (fun q73 => ?_) (fun q73 => ?_)
            · refine s_iconst C dX9_listsThere_26 (by decide) (fun z74 tz74 => ?_)
              refine s_iadd C dX9_listsThere_27 (by omega) (fun z75 tz75 => ?_)
              refine s_istore_n C dX9_listsThere_28 (by decide) (Nat.le_of_ble_eq_true rfl) rfl ?_
              show WP E ad 29 [some (.ref (ad 0)), some (.int z75), some (.int z67)] [] σ
              refine s_iinc C dX9_listsThere_29 rfl (by decide) rfl (by decide) (by omega) (fun z76 tz76 => ?_)
              show WP E ad 32 [some (.ref (ad 0)), some (.int z75), some (.int z76)] [] σ
              refine s_goto (tgt := 4) C dX9_listsThere_32 (by decide) ?_
              refine s_iload_n C dX9_listsThere_4 rfl ?_
              refine s_iconst C dX9_listsThere_5 (by decide) (fun z77 tz77 => ?_)
              refine s_icmp_ge (tgt := 35) C dX9_listsThere_6 (by decide) (fun q78 => ?_) (fun q78 => ?_)
              · refine s_iload_n C dX9_listsThere_35 rfl ?_
                exact s_iret C X dX9_listsThere_36 ⟨rfl, trivial⟩
              · omega
            · refine s_iconst C dX9_listsThere_22 (by decide) (fun z79 tz79 => ?_)
              refine s_goto (tgt := 27) C dX9_listsThere_23 (by decide) ?_
              refine s_iadd C dX9_listsThere_27 (by omega) (fun z80 tz80 => ?_)
              refine s_istore_n C dX9_listsThere_28 (by decide) (Nat.le_of_ble_eq_true rfl) rfl ?_
              show WP E ad 29 [some (.ref (ad 0)), some (.int z80), some (.int z67)] [] σ
              refine s_iinc C dX9_listsThere_29 rfl (by decide) rfl (by decide) (by omega) (fun z81 tz81 => ?_)
              show WP E ad 32 [some (.ref (ad 0)), some (.int z80), some (.int z81)] [] σ
              refine s_goto (tgt := 4) C dX9_listsThere_32 (by decide) ?_
              refine s_iload_n C dX9_listsThere_4 rfl ?_
              refine s_iconst C dX9_listsThere_5 (by decide) (fun z82 tz82 => ?_)
              refine s_icmp_ge (tgt := 35) C dX9_listsThere_6 (by decide) (fun q83 => ?_) (fun q83 => ?_)
              · refine s_iload_n C dX9_listsThere_35 rfl ?_
                exact s_iret C X dX9_listsThere_36 ⟨rfl, trivial⟩
              · omega
        · refine s_iconst C dX9_listsThere_22 (by decide) (fun z84 tz84 => ?_)
          refine s_goto (tgt := 27) C dX9_listsThere_23 (by decide) ?_
          refine s_iadd C dX9_listsThere_27 (by omega) (fun z85 tz85 => ?_)
          refine s_istore_n C dX9_listsThere_28 (by decide) (Nat.le_of_ble_eq_true rfl) rfl ?_
          show WP E ad 29 [some (.ref (ad 0)), some (.int z85), some (.int z58)] [] σ
          refine s_iinc C dX9_listsThere_29 rfl (by decide) rfl (by decide) (by omega) (fun z86 tz86 => ?_)
          show WP E ad 32 [some (.ref (ad 0)), some (.int z85), some (.int z86)] [] σ
          refine s_goto (tgt := 4) C dX9_listsThere_32 (by decide) ?_
          refine s_iload_n C dX9_listsThere_4 rfl ?_
          refine s_iconst C dX9_listsThere_5 (by decide) (fun z87 tz87 => ?_)
          refine s_icmp_ge (tgt := 35) C dX9_listsThere_6 (by decide) (fun q88 => ?_) (fun q88 => ?_)
          · omega
          · refine s_iload_n C dX9_listsThere_9 rfl ?_
            refine s_aload_n C dX9_listsThere_10 rfl ?_
            refine s_getr (k := 5) (j := 30) C y0 fw_X9_38 rfl dX9_listsThere_11 ?_
            refine s_iload_n C dX9_listsThere_14 rfl ?_
            refine s_aald (kd := 2) C y30 ⟨_, rfl⟩ (by omega) dX9_listsThere_15 ?_
            rw [show z86.toNatClampNeg = 2 by unfold Int32.toNatClampNeg; omega]
            refine s_callVI (st := [.int z85]) C (c_X3_isMissing_2 l ad σ  ) cv_X9_309 y42 rfl rfl rfl ⟨by decide, by decide⟩ (Nat.le_of_ble_eq_true rfl) dX9_listsThere_16 ?_
            intro r89 τ90 h91
            obtain ⟨eh91, h91⟩ := h91; replace eh91 := eh91.symm; subst eh91
            refine s_if_eq (tgt := 26) C dX9_listsThere_19 (by decide) (fun q92 => ?_) (fun q92 => ?_)
            · refine s_iconst C dX9_listsThere_26 (by decide) (fun z93 tz93 => ?_)
              refine s_iadd C dX9_listsThere_27 (by omega) (fun z94 tz94 => ?_)
              refine s_istore_n C dX9_listsThere_28 (by decide) (Nat.le_of_ble_eq_true rfl) rfl ?_
              show WP E ad 29 [some (.ref (ad 0)), some (.int z94), some (.int z86)] [] σ
              refine s_iinc C dX9_listsThere_29 rfl (by decide) rfl (by decide) (by omega) (fun z95 tz95 => ?_)
              show WP E ad 32 [some (.ref (ad 0)), some (.int z94), some (.int z95)] [] σ
              refine s_goto (tgt := 4) C dX9_listsThere_32 (by decide) ?_
              refine s_iload_n C dX9_listsThere_4 rfl ?_
              refine s_iconst C dX9_listsThere_5 (by decide) (fun z96 tz96 => ?_)
              refine s_icmp_ge (tgt := 35) C dX9_listsThere_6 (by decide) (fun q97 => ?_) (fun q97 => ?_)
              · refine s_iload_n C dX9_listsThere_35 rfl ?_
                exact s_iret C X dX9_listsThere_36 ⟨rfl, trivial⟩
              · omega
            · refine s_iconst C dX9_listsThere_22 (by decide) (fun z98 tz98 => ?_)
              refine s_goto (tgt := 27) C dX9_listsThere_23 (by decide) ?_
              refine s_iadd C dX9_listsThere_27 (by omega) (fun z99 tz99 => ?_)
              refine s_istore_n C dX9_listsThere_28 (by decide) (Nat.le_of_ble_eq_true rfl) rfl ?_
              show WP E ad 29 [some (.ref (ad 0)), some (.int z99), some (.int z86)] [] σ
              refine s_iinc C dX9_listsThere_29 rfl (by decide) rfl (by decide) (by omega) (fun z100 tz100 => ?_)
              show WP E ad 32 [some (.ref (ad 0)), some (.int z99), some (.int z100)] [] σ
              refine s_goto (tgt := 4) C dX9_listsThere_32 (by decide) ?_
              refine s_iload_n C dX9_listsThere_4 rfl ?_
              refine s_iconst C dX9_listsThere_5 (by decide) (fun z101 tz101 => ?_)
              refine s_icmp_ge (tgt := 35) C dX9_listsThere_6 (by decide) (fun q102 => ?_) (fun q102 => ?_)
              · refine s_iload_n C dX9_listsThere_35 rfl ?_
                exact s_iret C X dX9_listsThere_36 ⟨rfl, trivial⟩
              · omega
set_option maxRecDepth 100000 in
theorem c_X9_count (l : Launch) (ad : Nat → Nat) (σ : Sg) (w : Int32) (hX : IX σ.1) : Mt l yX9_count cX9_count 2 (some .int) 2 ad σ [.ref (ad 0), .int w] (oI (fun r τ => τ = σ ∧ True)) := by
  have hpr := hX.pr
  have htot := hX.tot
  have hms := hX.ms
  refine Mt_intro (by decide +kernel) (by simp [lg_sl, Value.category]) (fun E C X => ?_)
  show WP E ad 0 [some (.ref (ad 0)), some (.int w)] [] σ
  refine s_iload_n C dX9_count_0 rfl ?_
  by_cases hsw : w.toInt < 0 ∨ 6 < w.toInt
  · refine s_tblOut (tgt := 94) C dX9_count_1 hsw (by decide) ?_
    refine s_iconst C dX9_count_94 (by decide) (fun z1 tz1 => ?_)
    exact s_iret C X dX9_count_95 ⟨rfl, trivial⟩
  by_cases hs0 : w.toInt = 0
  · refine s_tblIn (off := 43) (tgt := 44) C dX9_count_1 (by omega) (by omega) (by rw [hs0]; rfl) (by decide) ?_
    refine s_aload_n C dX9_count_44 rfl ?_
    refine s_getr (k := 0) (j := 1) C y0 fw_X9_12 rfl dX9_count_45 ?_
    refine s_get (k := 0) (x := (σ.1 1 0)) C y1 fw_X9_83 rfl rfl dX9_count_48 ?_
    exact s_iret C X dX9_count_51 ⟨rfl, trivial⟩
  by_cases hs1 : w.toInt = 1
  · refine s_tblIn (off := 51) (tgt := 52) C dX9_count_1 (by omega) (by omega) (by rw [hs1]; rfl) (by decide) ?_
    refine s_aload_n C dX9_count_52 rfl ?_
    refine s_getr (k := 0) (j := 1) C y0 fw_X9_12 rfl dX9_count_53 ?_
    refine s_get (k := 1) (x := (σ.1 1 1)) C y1 fw_X9_138 rfl rfl dX9_count_56 ?_
    exact s_iret C X dX9_count_59 ⟨rfl, trivial⟩
  by_cases hs2 : w.toInt = 2
  · refine s_tblIn (off := 59) (tgt := 60) C dX9_count_1 (by omega) (by omega) (by rw [hs2]; rfl) (by decide) ?_
    refine s_aload_n C dX9_count_60 rfl ?_
    refine s_getr (k := 0) (j := 1) C y0 fw_X9_12 rfl dX9_count_61 ?_
    refine s_get (k := 2) (x := (σ.1 1 2)) C y1 fw_X9_121 rfl rfl dX9_count_64 ?_
    exact s_iret C X dX9_count_67 ⟨rfl, trivial⟩
  by_cases hs3 : w.toInt = 3
  · refine s_tblIn (off := 67) (tgt := 68) C dX9_count_1 (by omega) (by omega) (by rw [hs3]; rfl) (by decide) ?_
    refine s_aload_n C dX9_count_68 rfl ?_
    refine s_getr (k := 0) (j := 1) C y0 fw_X9_12 rfl dX9_count_69 ?_
    refine s_callVI (st := []) C (c_X5_marksInAll l ad σ  hX) cv_X9_331 y1 rfl rfl rfl ⟨by decide, by decide⟩ (Nat.le_of_ble_eq_true rfl) dX9_count_72 ?_
    intro r2 τ3 h4
    obtain ⟨eh4, h4⟩ := h4; replace eh4 := eh4.symm; subst eh4
    exact s_iret C X dX9_count_75 ⟨rfl, trivial⟩
  by_cases hs4 : w.toInt = 4
  · refine s_tblIn (off := 75) (tgt := 76) C dX9_count_1 (by omega) (by omega) (by rw [hs4]; rfl) (by decide) ?_
    refine s_aload_n C dX9_count_76 rfl ?_
    refine s_callVI (st := []) C (c_X9_conditionsTold l ad σ  ) cv_X9_334 y0 rfl rfl rfl ⟨by decide, by decide⟩ (Nat.le_of_ble_eq_true rfl) dX9_count_77 ?_
    intro r5 τ6 h7
    obtain ⟨eh7, h7⟩ := h7; replace eh7 := eh7.symm; subst eh7
    exact s_iret C X dX9_count_80 ⟨rfl, trivial⟩
  by_cases hs5 : w.toInt = 5
  · refine s_tblIn (off := 80) (tgt := 81) C dX9_count_1 (by omega) (by omega) (by rw [hs5]; rfl) (by decide) ?_
    refine s_aload_n C dX9_count_81 rfl ?_
    refine s_getr (k := 7) (j := 66) C y0 fw_X9_45 rfl dX9_count_82 ?_
    refine s_get (k := 0) (x := (σ.1 66 0)) C y66 fw_X9_291 rfl rfl dX9_count_85 ?_
    exact s_iret C X dX9_count_88 ⟨rfl, trivial⟩
  by_cases hs6 : w.toInt = 6
  · refine s_tblIn (off := 88) (tgt := 89) C dX9_count_1 (by omega) (by omega) (by rw [hs6]; rfl) (by decide) ?_
    refine s_aload_n C dX9_count_89 rfl ?_
    refine s_callVI (st := []) C (c_X9_listsThere l ad σ  ) cv_X9_337 y0 rfl rfl rfl ⟨by decide, by decide⟩ (Nat.le_of_ble_eq_true rfl) dX9_count_90 ?_
    intro r8 τ9 h10
    obtain ⟨eh10, h10⟩ := h10; replace eh10 := eh10.symm; subst eh10
    exact s_iret C X dX9_count_93 ⟨rfl, trivial⟩
  omega
set_option maxRecDepth 100000 in
theorem c_X9_cuts (l : Launch) (ad : Nat → Nat) (σ : Sg)  (hX : IX σ.1)  : Mt l yX9_cuts cX9_cuts 1 (some .int) 5 ad σ [.ref (ad 0)] (oI (fun r τ => IX τ.1 ∧ Fr [62, 63, 64, 65, 49, 50, 51, 52, 53, 54, 55, 56, 57] [(61, 1), (61, 2), (61, 5), (37, 3), (37, 4), (37, 5), (37, 6), (37, 7), (38, 3), (38, 4), (38, 5), (38, 6), (38, 7), (39, 3), (39, 4), (39, 5), (39, 6), (39, 7)] σ τ ∧ True)) := by
  have hpr := hX.pr
  have htot := hX.tot
  have hms := hX.ms
  refine Mt_intro (by decide +kernel) (by simp [lg_sl, Value.category]) (fun E C X => ?_)
  show WP E ad 0 [some (.ref (ad 0))] [] σ
  refine s_aload_n C dX9_cuts_0 rfl ?_
  refine s_callVR (st := []) C (c_X9_freshLattice l ad σ hX) cv_X9_187 y0 rfl rfl rfl ⟨by decide, by decide⟩ (Nat.le_of_ble_eq_true rfl) dX9_cuts_1 ?_
  intro r1 τ2 h3
  obtain ⟨eh3, h3⟩ := h3; subst eh3
  have hXτ2 := h3.1
  have szτ2 := hXτ2.sz
  refine s_get (k := 2) (x := (τ2.1 61 2)) C y61 fw_X9_191 rfl rfl dX9_cuts_4 ?_
  exact s_iret C X dX9_cuts_7 ⟨hXτ2, (Fr.tr Fr.rf (Fr.mo h3.2 (by decide) (by decide))), trivial⟩
set_option maxRecDepth 100000 in
theorem c_X9_cut (l : Launch) (ad : Nat → Nat) (σ : Sg) (i : Int32) (hX : IX σ.1)  : Mt l yX9_cut cX9_cut 2 (some .int) 6 ad σ [.ref (ad 0), .int i] (oI (fun r τ => IX τ.1 ∧ Fr [62, 63, 64, 65, 49, 50, 51, 52, 53, 54, 55, 56, 57] [(61, 1), (61, 2), (61, 5), (37, 3), (37, 4), (37, 5), (37, 6), (37, 7), (38, 3), (38, 4), (38, 5), (38, 6), (38, 7), (39, 3), (39, 4), (39, 5), (39, 6), (39, 7)] σ τ ∧ True)) := by
  have hpr := hX.pr
  have htot := hX.tot
  have hms := hX.ms
  refine Mt_intro (by decide +kernel) (by simp [lg_sl, Value.category]) (fun E C X => ?_)
  show WP E ad 0 [some (.ref (ad 0)), some (.int i)] [] σ
  refine s_aload_n C dX9_cut_0 rfl ?_
  refine s_iload_n C dX9_cut_1 rfl ?_
  refine s_callVI (st := []) C (c_X9_hasCut l ad σ i hX ) cv_X9_194 y0 rfl rfl rfl ⟨by decide, by decide⟩ (Nat.le_of_ble_eq_true rfl) dX9_cut_2 ?_
  intro r1 τ2 h3
  have hXτ2 := h3.1
  have hRτ2 := h3.2.2
  have prτ2 := hXτ2.pr
  have szτ2 := hXτ2.sz
  refine s_if_eq (tgt := 23) C dX9_cut_5 (by decide) (fun q4 => ?_) (fun q4 => ?_)
  · refine s_iconst C dX9_cut_23 (by decide) (fun z5 tz5 => ?_)
    exact s_iret C X dX9_cut_24 ⟨hXτ2, (Fr.tr Fr.rf (Fr.mo h3.2.1 (by decide) (by decide))), trivial⟩
  · refine s_aload_n C dX9_cut_8 rfl ?_
    refine s_getr (k := 6) (j := 61) C y0 fw_X9_58 rfl dX9_cut_9 ?_
    refine s_getr (k := 3) (j := 62) C y61 fw_X9_197 rfl dX9_cut_12 ?_
    refine s_iload_n C dX9_cut_15 rfl ?_
    refine s_iald (r := (τ2.1 62 i.toNatClampNeg)) C y62 (by omega) rfl dX9_cut_16 ?_
    refine s_callSI (st := []) C (c_X4_decimal l ad τ2 ((τ2.1 62 i.toNatClampNeg)) ) cv_X9_200 rfl rfl ⟨by decide, by decide⟩ (Nat.le_of_ble_eq_true rfl) dX9_cut_17 ?_
    intro r6 τ7 h8
    obtain ⟨eh8, h8⟩ := h8; replace eh8 := eh8.symm; subst eh8
    refine s_goto (tgt := 24) C dX9_cut_20 (by decide) ?_
    exact s_iret C X dX9_cut_24 ⟨hXτ2, (Fr.tr Fr.rf (Fr.mo h3.2.1 (by decide) (by decide))), trivial⟩
set_option maxRecDepth 100000 in
theorem c_X9_level (l : Launch) (ad : Nat → Nat) (σ : Sg) (i : Int32) (hX : IX σ.1)  : Mt l yX9_level cX9_level 2 (some .int) 6 ad σ [.ref (ad 0), .int i] (oI (fun r τ => IX τ.1 ∧ Fr [62, 63, 64, 65, 49, 50, 51, 52, 53, 54, 55, 56, 57] [(61, 1), (61, 2), (61, 5), (37, 3), (37, 4), (37, 5), (37, 6), (37, 7), (38, 3), (38, 4), (38, 5), (38, 6), (38, 7), (39, 3), (39, 4), (39, 5), (39, 6), (39, 7)] σ τ ∧ True)) := by
  have hpr := hX.pr
  have htot := hX.tot
  have hms := hX.ms
  refine Mt_intro (by decide +kernel) (by simp [lg_sl, Value.category]) (fun E C X => ?_)
  show WP E ad 0 [some (.ref (ad 0)), some (.int i)] [] σ
  refine s_aload_n C dX9_level_0 rfl ?_
  refine s_iload_n C dX9_level_1 rfl ?_
  refine s_callVI (st := []) C (c_X9_hasCut l ad σ i hX ) cv_X9_194 y0 rfl rfl rfl ⟨by decide, by decide⟩ (Nat.le_of_ble_eq_true rfl) dX9_level_2 ?_
  intro r1 τ2 h3
  have hXτ2 := h3.1
  have hRτ2 := h3.2.2
  have prτ2 := hXτ2.pr
  have szτ2 := hXτ2.sz
  refine s_if_eq (tgt := 23) C dX9_level_5 (by decide) (fun q4 => ?_) (fun q4 => ?_)
  · refine s_iconst C dX9_level_23 (by decide) (fun z5 tz5 => ?_)
    exact s_iret C X dX9_level_24 ⟨hXτ2, (Fr.tr Fr.rf (Fr.mo h3.2.1 (by decide) (by decide))), trivial⟩
  · refine s_aload_n C dX9_level_8 rfl ?_
    refine s_getr (k := 6) (j := 61) C y0 fw_X9_58 rfl dX9_level_9 ?_
    refine s_getr (k := 3) (j := 62) C y61 fw_X9_197 rfl dX9_level_12 ?_
    refine s_iload_n C dX9_level_15 rfl ?_
    refine s_iald (r := (τ2.1 62 i.toNatClampNeg)) C y62 (by omega) rfl dX9_level_16 ?_
    refine s_callSI (st := []) C (c_X4_sum l ad τ2 ((τ2.1 62 i.toNatClampNeg)) ) cv_X9_209 rfl rfl ⟨by decide, by decide⟩ (Nat.le_of_ble_eq_true rfl) dX9_level_17 ?_
    intro r6 τ7 h8
    obtain ⟨eh8, h8⟩ := h8; replace eh8 := eh8.symm; subst eh8
    refine s_goto (tgt := 24) C dX9_level_20 (by decide) ?_
    exact s_iret C X dX9_level_24 ⟨hXτ2, (Fr.tr Fr.rf (Fr.mo h3.2.1 (by decide) (by decide))), trivial⟩
set_option maxRecDepth 100000 in
theorem c_X9_which (l : Launch) (ad : Nat → Nat) (σ : Sg) (d : Int32) (hX : IX σ.1)  : Mt l yX9_which cX9_which 4 (some .int) 5 ad σ [.ref (ad 0), .int d] (oI (fun r τ => IX τ.1 ∧ Fr [62, 63, 64, 65, 49, 50, 51, 52, 53, 54, 55, 56, 57] [(61, 1), (61, 2), (61, 5), (37, 3), (37, 4), (37, 5), (37, 6), (37, 7), (38, 3), (38, 4), (38, 5), (38, 6), (38, 7), (39, 3), (39, 4), (39, 5), (39, 6), (39, 7)] σ τ ∧ True)) := by
  have hpr := hX.pr
  have htot := hX.tot
  have hms := hX.ms
  refine Mt_intro (by decide +kernel) (by simp [lg_sl, Value.category]) (fun E C X => ?_)
  show WP E ad 0 [some (.ref (ad 0)), some (.int d), none, none] [] σ
  refine s_aload_n C dX9_which_0 rfl ?_
  refine s_getr (k := 0) (j := 1) C y0 fw_X9_12 rfl dX9_which_1 ?_
  refine s_iload_n C dX9_which_4 rfl ?_
  refine s_callVI (st := []) C (c_X5_rowOfDigits l ad σ d hX) cv_X9_203 y1 rfl rfl rfl ⟨by decide, by decide⟩ (Nat.le_of_ble_eq_true rfl) dX9_which_5 ?_
  intro r1 τ2 h3
  obtain ⟨eh3, h3⟩ := h3; replace eh3 := eh3.symm; subst eh3
  refine s_istore_n C dX9_which_8 (by decide) (Nat.le_of_ble_eq_true rfl) rfl ?_
  show WP E ad 9 [some (.ref (ad 0)), some (.int d), some (.int r1), none] [] σ
  refine s_iload_n C dX9_which_9 rfl ?_
  refine s_if_ge (tgt := 15) C dX9_which_10 (by decide) (fun q4 => ?_) (fun q4 => ?_)
  · refine s_aload_n C dX9_which_15 rfl ?_
    refine s_callVR (st := []) C (c_X9_freshLattice l ad σ hX) cv_X9_187 y0 rfl rfl rfl ⟨by decide, by decide⟩ (Nat.le_of_ble_eq_true rfl) dX9_which_16 ?_
    intro r5 τ6 h7
    obtain ⟨eh7, h7⟩ := h7; subst eh7
    have hXτ6 := h7.1
    have szτ6 := hXτ6.sz
    refine s_iload_n C dX9_which_19 rfl ?_
    refine s_callVI (st := []) C (c_X2_numberOf l ad τ6 r1 hXτ6) cv_X9_206 y61 rfl rfl rfl ⟨by decide, by decide⟩ (Nat.le_of_ble_eq_true rfl) dX9_which_20 ?_
    intro r8 τ9 h10
    obtain ⟨eh10, h10⟩ := h10; replace eh10 := eh10.symm; subst eh10
    refine s_istore_n C dX9_which_23 (by decide) (Nat.le_of_ble_eq_true rfl) rfl ?_
    show WP E ad 24 [some (.ref (ad 0)), some (.int d), some (.int r1), some (.int r8)] [] τ6
    refine s_iload_n C dX9_which_24 rfl ?_
    refine s_if_ge (tgt := 33) C dX9_which_25 (by decide) (fun q11 => ?_) (fun q11 => ?_)
    · refine s_iload_n C dX9_which_33 rfl ?_
      exact s_iret C X dX9_which_34 ⟨hXτ6, (Fr.tr Fr.rf (Fr.mo h7.2 (by decide) (by decide))), trivial⟩
    · refine s_bipush C dX9_which_28 (by decide) (fun z12 tz12 => ?_)
      refine s_goto (tgt := 34) C dX9_which_30 (by decide) ?_
      exact s_iret C X dX9_which_34 ⟨hXτ6, (Fr.tr Fr.rf (Fr.mo h7.2 (by decide) (by decide))), trivial⟩
  · refine s_iconst C dX9_which_13 (by decide) (fun z13 tz13 => ?_)
    exact s_iret C X dX9_which_14 ⟨hX, Fr.rf, trivial⟩
set_option maxRecDepth 100000 in
theorem c_X9_meet (l : Launch) (ad : Nat → Nat) (σ : Sg) (i : Int32) (j : Int32) (hX : IX σ.1)  : Mt l yX9_meet cX9_meet 3 (some .int) 6 ad σ [.ref (ad 0), .int i, .int j] (oI (fun r τ => IX τ.1 ∧ Fr [62, 63, 64, 65, 49, 50, 51, 52, 53, 54, 55, 56, 57] [(61, 1), (61, 2), (61, 5), (37, 3), (37, 4), (37, 5), (37, 6), (37, 7), (38, 3), (38, 4), (38, 5), (38, 6), (38, 7), (39, 3), (39, 4), (39, 5), (39, 6), (39, 7)] σ τ ∧ True)) := by
  have hpr := hX.pr
  have htot := hX.tot
  have hms := hX.ms
  refine Mt_intro (by decide +kernel) (by simp [lg_sl, Value.category]) (fun E C X => ?_)
  show WP E ad 0 [some (.ref (ad 0)), some (.int i), some (.int j)] [] σ
  refine s_aload_n C dX9_meet_0 rfl ?_
  refine s_iload_n C dX9_meet_1 rfl ?_
  refine s_callVI (st := []) C (c_X9_hasCut l ad σ i hX ) cv_X9_194 y0 rfl rfl rfl ⟨by decide, by decide⟩ (Nat.le_of_ble_eq_true rfl) dX9_meet_2 ?_
  intro r1 τ2 h3
  have hXτ2 := h3.1
  have hRτ2 := h3.2.2
  have prτ2 := hXτ2.pr
  have szτ2 := hXτ2.sz
  refine s_if_eq (tgt := 16) C dX9_meet_5 (by decide) (fun q4 => ?_) (fun q4 => ?_)
  · refine s_iconst C dX9_meet_16 (by decide) (fun z5 tz5 => ?_)
    exact s_iret C X dX9_meet_17 ⟨hXτ2, (Fr.tr Fr.rf (Fr.mo h3.2.1 (by decide) (by decide))), trivial⟩
  · refine s_aload_n C dX9_meet_8 rfl ?_
    refine s_iload_n C dX9_meet_9 rfl ?_
    refine s_callVI (st := []) C (c_X9_hasCut l ad τ2 j hXτ2 ) cv_X9_194 y0 rfl rfl rfl ⟨by decide, by decide⟩ (Nat.le_of_ble_eq_true rfl) dX9_meet_10 ?_
    intro r6 τ7 h8
    have hXτ7 := h8.1
    have hRτ7 := h8.2.2
    have prτ7 := hXτ7.pr
    have szτ7 := hXτ7.sz
    refine s_if_ne (tgt := 18) C dX9_meet_13 (by decide) (fun q9 => ?_) (fun q9 => ?_)
    · refine s_aload_n C dX9_meet_18 rfl ?_
      refine s_getr (k := 6) (j := 61) C y0 fw_X9_58 rfl dX9_meet_19 ?_
      refine s_aload_n C dX9_meet_22 rfl ?_
      refine s_getr (k := 6) (j := 61) C y0 fw_X9_58 rfl dX9_meet_23 ?_
      refine s_getr (k := 3) (j := 62) C y61 fw_X9_197 rfl dX9_meet_26 ?_
      refine s_iload_n C dX9_meet_29 rfl ?_
      refine s_iald (r := (τ7.1 62 i.toNatClampNeg)) C y62 (by omega) rfl dX9_meet_30 ?_
      refine s_aload_n C dX9_meet_31 rfl ?_
      refine s_getr (k := 6) (j := 61) C y0 fw_X9_58 rfl dX9_meet_32 ?_
      refine s_getr (k := 3) (j := 62) C y61 fw_X9_197 rfl dX9_meet_35 ?_
      refine s_iload_n C dX9_meet_38 rfl ?_
      refine s_iald (r := (τ7.1 62 j.toNatClampNeg)) C y62 (by omega) rfl dX9_meet_39 ?_
      refine s_callSI (st := [.ref (ad 61)]) C (c_X4_lesser l ad τ7 ((τ7.1 62 i.toNatClampNeg)) ((τ7.1 62 j.toNatClampNeg)) ) cv_X9_215 rfl rfl ⟨by decide, by decide⟩ (Nat.le_of_ble_eq_true rfl) dX9_meet_40 ?_
      intro r10 τ11 h12
      obtain ⟨eh12, h12⟩ := h12; replace eh12 := eh12.symm; subst eh12
      refine s_callVI (st := []) C (c_X2_numberOf l ad τ7 r10 hXτ7) cv_X9_206 y61 rfl rfl rfl ⟨by decide, by decide⟩ (Nat.le_of_ble_eq_true rfl) dX9_meet_43 ?_
      intro r13 τ14 h15
      obtain ⟨eh15, h15⟩ := h15; replace eh15 := eh15.symm; subst eh15
      exact s_iret C X dX9_meet_46 ⟨hXτ7, (Fr.tr (Fr.tr Fr.rf (Fr.mo h3.2.1 (by decide) (by decide))) (Fr.mo h8.2.1 (by decide) (by decide))), trivial⟩
    · refine s_iconst C dX9_meet_16 (by decide) (fun z16 tz16 => ?_)
      exact s_iret C X dX9_meet_17 ⟨hXτ7, (Fr.tr (Fr.tr Fr.rf (Fr.mo h3.2.1 (by decide) (by decide))) (Fr.mo h8.2.1 (by decide) (by decide))), trivial⟩
set_option maxRecDepth 100000 in
theorem c_X9_join (l : Launch) (ad : Nat → Nat) (σ : Sg) (i : Int32) (j : Int32) (hX : IX σ.1)  : Mt l yX9_join cX9_join 3 (some .int) 6 ad σ [.ref (ad 0), .int i, .int j] (oI (fun r τ => IX τ.1 ∧ Fr [62, 63, 64, 65, 49, 50, 51, 52, 53, 54, 55, 56, 57] [(61, 1), (61, 2), (61, 5), (37, 3), (37, 4), (37, 5), (37, 6), (37, 7), (38, 3), (38, 4), (38, 5), (38, 6), (38, 7), (39, 3), (39, 4), (39, 5), (39, 6), (39, 7)] σ τ ∧ True)) := by
  have hpr := hX.pr
  have htot := hX.tot
  have hms := hX.ms
  refine Mt_intro (by decide +kernel) (by simp [lg_sl, Value.category]) (fun E C X => ?_)
  show WP E ad 0 [some (.ref (ad 0)), some (.int i), some (.int j)] [] σ
  refine s_aload_n C dX9_join_0 rfl ?_
  refine s_iload_n C dX9_join_1 rfl ?_
  refine s_callVI (st := []) C (c_X9_hasCut l ad σ i hX ) cv_X9_194 y0 rfl rfl rfl ⟨by decide, by decide⟩ (Nat.le_of_ble_eq_true rfl) dX9_join_2 ?_
  intro r1 τ2 h3
  have hXτ2 := h3.1
  have hRτ2 := h3.2.2
  have prτ2 := hXτ2.pr
  have szτ2 := hXτ2.sz
  refine s_if_eq (tgt := 16) C dX9_join_5 (by decide) (fun q4 => ?_) (fun q4 => ?_)
  · refine s_iconst C dX9_join_16 (by decide) (fun z5 tz5 => ?_)
    exact s_iret C X dX9_join_17 ⟨hXτ2, (Fr.tr Fr.rf (Fr.mo h3.2.1 (by decide) (by decide))), trivial⟩
  · refine s_aload_n C dX9_join_8 rfl ?_
    refine s_iload_n C dX9_join_9 rfl ?_
    refine s_callVI (st := []) C (c_X9_hasCut l ad τ2 j hXτ2 ) cv_X9_194 y0 rfl rfl rfl ⟨by decide, by decide⟩ (Nat.le_of_ble_eq_true rfl) dX9_join_10 ?_
    intro r6 τ7 h8
    have hXτ7 := h8.1
    have hRτ7 := h8.2.2
    have prτ7 := hXτ7.pr
    have szτ7 := hXτ7.sz
    refine s_if_ne (tgt := 18) C dX9_join_13 (by decide) (fun q9 => ?_) (fun q9 => ?_)
    · refine s_aload_n C dX9_join_18 rfl ?_
      refine s_getr (k := 6) (j := 61) C y0 fw_X9_58 rfl dX9_join_19 ?_
      refine s_aload_n C dX9_join_22 rfl ?_
      refine s_getr (k := 6) (j := 61) C y0 fw_X9_58 rfl dX9_join_23 ?_
      refine s_getr (k := 3) (j := 62) C y61 fw_X9_197 rfl dX9_join_26 ?_
      refine s_iload_n C dX9_join_29 rfl ?_
      refine s_iald (r := (τ7.1 62 i.toNatClampNeg)) C y62 (by omega) rfl dX9_join_30 ?_
      refine s_aload_n C dX9_join_31 rfl ?_
      refine s_getr (k := 6) (j := 61) C y0 fw_X9_58 rfl dX9_join_32 ?_
      refine s_getr (k := 3) (j := 62) C y61 fw_X9_197 rfl dX9_join_35 ?_
      refine s_iload_n C dX9_join_38 rfl ?_
      refine s_iald (r := (τ7.1 62 j.toNatClampNeg)) C y62 (by omega) rfl dX9_join_39 ?_
      refine s_callSI (st := [.ref (ad 61)]) C (c_X4_greater l ad τ7 ((τ7.1 62 i.toNatClampNeg)) ((τ7.1 62 j.toNatClampNeg)) ) cv_X9_218 rfl rfl ⟨by decide, by decide⟩ (Nat.le_of_ble_eq_true rfl) dX9_join_40 ?_
      intro r10 τ11 h12
      obtain ⟨eh12, h12⟩ := h12; replace eh12 := eh12.symm; subst eh12
      refine s_callVI (st := []) C (c_X2_numberOf l ad τ7 r10 hXτ7) cv_X9_206 y61 rfl rfl rfl ⟨by decide, by decide⟩ (Nat.le_of_ble_eq_true rfl) dX9_join_43 ?_
      intro r13 τ14 h15
      obtain ⟨eh15, h15⟩ := h15; replace eh15 := eh15.symm; subst eh15
      exact s_iret C X dX9_join_46 ⟨hXτ7, (Fr.tr (Fr.tr Fr.rf (Fr.mo h3.2.1 (by decide) (by decide))) (Fr.mo h8.2.1 (by decide) (by decide))), trivial⟩
    · refine s_iconst C dX9_join_16 (by decide) (fun z16 tz16 => ?_)
      exact s_iret C X dX9_join_17 ⟨hXτ7, (Fr.tr (Fr.tr Fr.rf (Fr.mo h3.2.1 (by decide) (by decide))) (Fr.mo h8.2.1 (by decide) (by decide))), trivial⟩
set_option maxRecDepth 100000 in
theorem c_X9_under (l : Launch) (ad : Nat → Nat) (σ : Sg) (i : Int32) (hX : IX σ.1)  : Mt l yX9_under cX9_under 2 (some .int) 6 ad σ [.ref (ad 0), .int i] (oI (fun r τ => IX τ.1 ∧ Fr [62, 63, 64, 65, 49, 50, 51, 52, 53, 54, 55, 56, 57] [(61, 1), (61, 2), (61, 5), (37, 3), (37, 4), (37, 5), (37, 6), (37, 7), (38, 3), (38, 4), (38, 5), (38, 6), (38, 7), (39, 3), (39, 4), (39, 5), (39, 6), (39, 7)] σ τ ∧ True)) := by
  have hpr := hX.pr
  have htot := hX.tot
  have hms := hX.ms
  refine Mt_intro (by decide +kernel) (by simp [lg_sl, Value.category]) (fun E C X => ?_)
  show WP E ad 0 [some (.ref (ad 0)), some (.int i)] [] σ
  refine s_aload_n C dX9_under_0 rfl ?_
  refine s_iload_n C dX9_under_1 rfl ?_
  refine s_callVI (st := []) C (c_X9_hasCut l ad σ i hX ) cv_X9_194 y0 rfl rfl rfl ⟨by decide, by decide⟩ (Nat.le_of_ble_eq_true rfl) dX9_under_2 ?_
  intro r1 τ2 h3
  have hXτ2 := h3.1
  have hRτ2 := h3.2.2
  have prτ2 := hXτ2.pr
  have szτ2 := hXτ2.sz
  refine s_if_eq (tgt := 27) C dX9_under_5 (by decide) (fun q4 => ?_) (fun q4 => ?_)
  · refine s_iconst C dX9_under_27 (by decide) (fun z5 tz5 => ?_)
    exact s_iret C X dX9_under_28 ⟨hXτ2, (Fr.tr Fr.rf (Fr.mo h3.2.1 (by decide) (by decide))), trivial⟩
  · refine s_aload_n C dX9_under_8 rfl ?_
    refine s_getr (k := 0) (j := 1) C y0 fw_X9_12 rfl dX9_under_9 ?_
    refine s_aload_n C dX9_under_12 rfl ?_
    refine s_getr (k := 6) (j := 61) C y0 fw_X9_58 rfl dX9_under_13 ?_
    refine s_getr (k := 3) (j := 62) C y61 fw_X9_197 rfl dX9_under_16 ?_
    refine s_iload_n C dX9_under_19 rfl ?_
    refine s_iald (r := (τ2.1 62 i.toNatClampNeg)) C y62 (by omega) rfl dX9_under_20 ?_
    refine s_callVI (st := []) C (c_X5_underWay l ad τ2 ((τ2.1 62 i.toNatClampNeg)) hXτ2) cv_X9_221 y1 rfl rfl rfl ⟨by decide, by decide⟩ (Nat.le_of_ble_eq_true rfl) dX9_under_21 ?_
    intro r6 τ7 h8
    obtain ⟨eh8, h8⟩ := h8; replace eh8 := eh8.symm; subst eh8
    refine s_goto (tgt := 28) C dX9_under_24 (by decide) ?_
    exact s_iret C X dX9_under_28 ⟨hXτ2, (Fr.tr Fr.rf (Fr.mo h3.2.1 (by decide) (by decide))), trivial⟩
set_option maxRecDepth 100000 in
theorem c_X9_value (l : Launch) (ad : Nat → Nat) (σ : Sg) (i : Int32) (p : Int32) (hX : IX σ.1)  : Mt l yX9_value cX9_value 3 (some .int) 6 ad σ [.ref (ad 0), .int i, .int p] (oI (fun r τ => IX τ.1 ∧ Fr [62, 63, 64, 65, 49, 50, 51, 52, 53, 54, 55, 56, 57] [(61, 1), (61, 2), (61, 5), (37, 3), (37, 4), (37, 5), (37, 6), (37, 7), (38, 3), (38, 4), (38, 5), (38, 6), (38, 7), (39, 3), (39, 4), (39, 5), (39, 6), (39, 7)] σ τ ∧ True)) := by
  have hpr := hX.pr
  have htot := hX.tot
  have hms := hX.ms
  refine Mt_intro (by decide +kernel) (by simp [lg_sl, Value.category]) (fun E C X => ?_)
  show WP E ad 0 [some (.ref (ad 0)), some (.int i), some (.int p)] [] σ
  refine s_aload_n C dX9_value_0 rfl ?_
  refine s_iload_n C dX9_value_1 rfl ?_
  refine s_callVI (st := []) C (c_X9_hasCut l ad σ i hX ) cv_X9_194 y0 rfl rfl rfl ⟨by decide, by decide⟩ (Nat.le_of_ble_eq_true rfl) dX9_value_2 ?_
  intro r1 τ2 h3
  have hXτ2 := h3.1
  have hRτ2 := h3.2.2
  have prτ2 := hXτ2.pr
  have szτ2 := hXτ2.sz
  refine s_if_eq (tgt := 19) C dX9_value_5 (by decide) (fun q4 => ?_) (fun q4 => ?_)
  · refine s_iconst C dX9_value_19 (by decide) (fun z5 tz5 => ?_)
    exact s_iret C X dX9_value_20 ⟨hXτ2, (Fr.tr Fr.rf (Fr.mo h3.2.1 (by decide) (by decide))), trivial⟩
  · refine s_aload_n C dX9_value_8 rfl ?_
    refine s_getr (k := 0) (j := 1) C y0 fw_X9_12 rfl dX9_value_9 ?_
    refine s_iload_n C dX9_value_12 rfl ?_
    refine s_callVI (st := []) C (c_X5_hasProcess l ad τ2 p ) cv_X9_97 y1 rfl rfl rfl ⟨by decide, by decide⟩ (Nat.le_of_ble_eq_true rfl) dX9_value_13 ?_
    intro r6 τ7 h8
    obtain ⟨eh8, h8⟩ := h8; replace eh8 := eh8.symm; subst eh8
    refine s_if_ne (tgt := 21) C dX9_value_16 (by decide) (fun q9 => ?_) (fun q9 => ?_)
    · refine s_aload_n C dX9_value_21 rfl ?_
      refine s_getr (k := 0) (j := 1) C y0 fw_X9_12 rfl dX9_value_22 ?_
      refine s_aload_n C dX9_value_25 rfl ?_
      refine s_getr (k := 6) (j := 61) C y0 fw_X9_58 rfl dX9_value_26 ?_
      refine s_getr (k := 3) (j := 62) C y61 fw_X9_197 rfl dX9_value_29 ?_
      refine s_iload_n C dX9_value_32 rfl ?_
      refine s_iald (r := (τ2.1 62 i.toNatClampNeg)) C y62 (by omega) rfl dX9_value_33 ?_
      refine s_iload_n C dX9_value_34 rfl ?_
      refine s_callVI (st := []) C (c_X5_valueIn l ad τ2 ((τ2.1 62 i.toNatClampNeg)) p (by omega) (hXτ2.rw _) (by omega)) cv_X9_224 y1 rfl rfl rfl ⟨by decide, by decide⟩ (Nat.le_of_ble_eq_true rfl) dX9_value_35 ?_
      intro r10 τ11 h12
      obtain ⟨eh12, h12⟩ := h12; replace eh12 := eh12.symm; subst eh12
      refine s_bipush C dX9_value_38 (by decide) (fun z13 tz13 => ?_)
      refine s_iaddU C dX9_value_40 (fun z14 tz14 => ?_)
      exact s_iret C X dX9_value_41 ⟨hXτ2, (Fr.tr Fr.rf (Fr.mo h3.2.1 (by decide) (by decide))), trivial⟩
    · refine s_iconst C dX9_value_19 (by decide) (fun z15 tz15 => ?_)
      exact s_iret C X dX9_value_20 ⟨hXτ2, (Fr.tr Fr.rf (Fr.mo h3.2.1 (by decide) (by decide))), trivial⟩
set_option maxRecDepth 100000 in
theorem c_X9_ways (l : Launch) (ad : Nat → Nat) (σ : Sg) (i : Int32) (hX : IX σ.1)  : Mt l yX9_ways cX9_ways 2 (some .long) 6 ad σ [.ref (ad 0), .int i] (oL (fun r τ => IX τ.1 ∧ Fr [62, 63, 64, 65, 49, 50, 51, 52, 53, 54, 55, 56, 57] [(61, 1), (61, 2), (61, 5), (37, 3), (37, 4), (37, 5), (37, 6), (37, 7), (38, 3), (38, 4), (38, 5), (38, 6), (38, 7), (39, 3), (39, 4), (39, 5), (39, 6), (39, 7)] σ τ ∧ True)) := by
  have hpr := hX.pr
  have htot := hX.tot
  have hms := hX.ms
  refine Mt_intro (by decide +kernel) (by simp [lg_sl, Value.category]) (fun E C X => ?_)
  show WP E ad 0 [some (.ref (ad 0)), some (.int i)] [] σ
  refine s_iload_n C dX9_ways_0 rfl ?_
  refine s_iconst C dX9_ways_1 (by decide) (fun z1 tz1 => ?_)
  refine s_icmp_ne (tgt := 14) C dX9_ways_2 (by decide) (fun q2 => ?_) (fun q2 => ?_)
  · refine s_aload_n C dX9_ways_14 rfl ?_
    refine s_iload_n C dX9_ways_15 rfl ?_
    refine s_callVI (st := []) C (c_X9_hasCut l ad σ i hX ) cv_X9_194 y0 rfl rfl rfl ⟨by decide, by decide⟩ (Nat.le_of_ble_eq_true rfl) dX9_ways_16 ?_
    intro r3 τ4 h5
    have hXτ4 := h5.1
    have hRτ4 := h5.2.2
    have prτ4 := hXτ4.pr
    have szτ4 := hXτ4.sz
    refine s_if_eq (tgt := 33) C dX9_ways_19 (by decide) (fun q6 => ?_) (fun q6 => ?_)
    · obtain ⟨L7, eL7⟩ : ∃ q : Int64, q = -9223372036854775808 := ⟨_, rfl⟩
      have tL7 : L7.toInt = -9223372036854775808 := by rw [eL7]; rfl
      refine s_ldc2 (v := L7) C dX9_ways_33 (by rw [eL7]; exact mw 614 (by decide +kernel) rfl) ?_
      exact s_lret C X dX9_ways_36 ⟨hXτ4, (Fr.tr Fr.rf (Fr.mo h5.2.1 (by decide) (by decide))), trivial⟩
    · refine s_aload_n C dX9_ways_22 rfl ?_
      refine s_getr (k := 6) (j := 61) C y0 fw_X9_58 rfl dX9_ways_23 ?_
      refine s_iload_n C dX9_ways_26 rfl ?_
      refine s_callVL (st := []) C (c_X2_waysBy l ad τ4 i hXτ4 (by omega)) cv_X9_227 y61 rfl rfl rfl ⟨by decide, by decide⟩ (Nat.le_of_ble_eq_true rfl) dX9_ways_27 ?_
      intro r8 τ9 h10
      have hXτ9 := h10.1
      have hRτ9 := h10.2.2
      have prτ9 := hXτ9.pr
      have szτ9 := hXτ9.sz
      refine s_goto (tgt := 36) C dX9_ways_30 (by decide) ?_
      exact s_lret C X dX9_ways_36 ⟨hXτ9, (Fr.tr (Fr.tr Fr.rf (Fr.mo h5.2.1 (by decide) (by decide))) (Fr.mo h10.2.1 (by decide) (by decide))), trivial⟩
  · refine s_aload_n C dX9_ways_5 rfl ?_
    refine s_callVR (st := []) C (c_X9_freshLattice l ad σ hX) cv_X9_187 y0 rfl rfl rfl ⟨by decide, by decide⟩ (Nat.le_of_ble_eq_true rfl) dX9_ways_6 ?_
    intro r11 τ12 h13
    obtain ⟨eh13, h13⟩ := h13; subst eh13
    have hXτ12 := h13.1
    have szτ12 := hXτ12.sz
    refine s_iconst C dX9_ways_9 (by decide) (fun z14 tz14 => ?_)
    refine s_callVL (st := []) C (c_X2_waysBy l ad τ12 z14 hXτ12 (by omega)) cv_X9_227 y61 rfl rfl rfl ⟨by decide, by decide⟩ (Nat.le_of_ble_eq_true rfl) dX9_ways_10 ?_
    intro r15 τ16 h17
    have hXτ16 := h17.1
    have hRτ16 := h17.2.2
    have prτ16 := hXτ16.pr
    have szτ16 := hXτ16.sz
    exact s_lret C X dX9_ways_13 ⟨hXτ16, (Fr.tr (Fr.tr Fr.rf (Fr.mo h13.2 (by decide) (by decide))) (Fr.mo h17.2.1 (by decide) (by decide))), trivial⟩
set_option maxRecDepth 100000 in
theorem L_nextX (l : Launch) (ad : Nat → Nat) (E : Ev) (σ τ : Sg) (kF : Fr [62, 63, 64, 65, 49, 50, 51, 52, 53, 54, 55, 56, 57] [(61, 1), (61, 2), (61, 5), (37, 3), (37, 4), (37, 5), (37, 6), (37, 7), (38, 3), (38, 4), (38, 5), (38, 6), (38, 7), (39, 3), (39, 4), (39, 5), (39, 6), (39, 7)] σ τ) (hXτ : IX τ.1) (i k : Int32) (hi : 0 ≤ i.toInt ∧ i.toInt ≤ 1295) (C : Cx E l (rmk 6) 6 cX9_next RX9) (X : Rx E ad (some .int) (oI (fun r τ => IX τ.1 ∧ Fr [62, 63, 64, 65, 49, 50, 51, 52, 53, 54, 55, 56, 57] [(61, 1), (61, 2), (61, 5), (37, 3), (37, 4), (37, 5), (37, 6), (37, 7), (38, 3), (38, 4), (38, 5), (38, 6), (38, 7), (39, 3), (39, 4), (39, 5), (39, 6), (39, 7)] σ τ ∧ True)))  : ∀ (n : Nat) (a : Int32) (z : Int32), (0 ≤ a.toInt ∧ a.toInt ≤ z.toInt) → (0 ≤ z.toInt) → (4 - z.toInt).toNat < n → WP E ad 20 [some (.ref (ad 0)), some (.int i), some (.int k), some (.int a), some (.int z), none] [] τ := by
  intro n
  induction n with
  | zero => intro a z ha h0 hm9; exact absurd hm9 (Nat.not_lt_zero _)
  | succ n ih =>
    intro a z ha h0 hm9
    have hpr := hXτ.pr
    have hsz := hXτ.sz
    refine s_iload C dX9_next_20 rfl ?_
    refine s_aload_n C dX9_next_22 rfl ?_
    refine s_getr (k := 0) (j := 1) C y0 fw_X9_12 rfl dX9_next_23 ?_
    refine s_get (k := 0) (x := (τ.1 1 0)) C y1 fw_X9_83 rfl rfl dX9_next_26 ?_
    refine s_icmp_ge (tgt := 71) C dX9_next_29 (by decide) (fun q1 => ?_) (fun q1 => ?_)
    · refine s_iload_n C dX9_next_71 rfl ?_
      refine s_iconst C dX9_next_72 (by decide) (fun z2 tz2 => ?_)
      refine s_icmp_ne (tgt := 80) C dX9_next_73 (by decide) (fun q3 => ?_) (fun q3 => ?_)
      · refine s_iconst C dX9_next_80 (by decide) (fun z4 tz4 => ?_)
        exact s_iret C X dX9_next_81 ⟨hXτ, kF, trivial⟩
      · refine s_iload_n C dX9_next_76 rfl ?_
        refine s_goto (tgt := 81) C dX9_next_77 (by decide) ?_
        exact s_iret C X dX9_next_81 ⟨hXτ, kF, trivial⟩
    · refine s_aload_n C dX9_next_32 rfl ?_
      refine s_getr (k := 6) (j := 61) C y0 fw_X9_58 rfl dX9_next_33 ?_
      refine s_iload_n C dX9_next_36 rfl ?_
      refine s_iload C dX9_next_37 rfl ?_
      refine s_callVI (st := []) C (c_X2_successor l ad τ i z hXτ (by omega) (by omega)) cv_X9_212 y61 rfl rfl rfl ⟨by decide, by decide⟩ (Nat.le_of_ble_eq_true rfl) dX9_next_39 ?_
      intro r5 τ6 h7
      obtain ⟨eh7, h7⟩ := h7; replace eh7 := eh7.symm; subst eh7
      refine s_istore C dX9_next_42 (by decide) (Nat.le_of_ble_eq_true rfl) rfl ?_
      show WP E ad 44 [some (.ref (ad 0)), some (.int i), some (.int k), some (.int a), some (.int z), some (.int r5)] [] τ
      refine s_iload C dX9_next_44 rfl ?_
      refine s_if_lt (tgt := 57) C dX9_next_46 (by decide) (fun q8 => ?_) (fun q8 => ?_)
      · refine s_iload C dX9_next_57 rfl ?_
        refine s_if_lt (tgt := 65) C dX9_next_59 (by decide) (fun q9 => ?_) (fun q9 => ?_)
        · refine s_iinc C dX9_next_65 rfl (by decide) rfl (by decide) (by omega) (fun z10 tz10 => ?_)
          show WP E ad 68 [some (.ref (ad 0)), some (.int i), some (.int k), some (.int a), some (.int z10), some (.int r5)] [] τ
          refine s_goto (tgt := 20) C dX9_next_68 (by decide) ?_
          refine wp_le (lv' := [some (.ref (ad 0)), some (.int i), some (.int k), some (.int a), some (.int z10), none]) ⟨rfl, ⟨rfl, ⟨rfl, ⟨rfl, ⟨rfl, trivial⟩⟩⟩⟩⟩ ?_
          exact ih a z10 (by omega) (by omega) (by omega)
        · refine s_iinc C dX9_next_62 rfl (by decide) rfl (by decide) (by omega) (fun z11 tz11 => ?_)
          show WP E ad 65 [some (.ref (ad 0)), some (.int i), some (.int k), some (.int z11), some (.int z), some (.int r5)] [] τ
          refine s_iinc C dX9_next_65 rfl (by decide) rfl (by decide) (by omega) (fun z12 tz12 => ?_)
          show WP E ad 68 [some (.ref (ad 0)), some (.int i), some (.int k), some (.int z11), some (.int z12), some (.int r5)] [] τ
          refine s_goto (tgt := 20) C dX9_next_68 (by decide) ?_
          refine wp_le (lv' := [some (.ref (ad 0)), some (.int i), some (.int k), some (.int z11), some (.int z12), none]) ⟨rfl, ⟨rfl, ⟨rfl, ⟨rfl, ⟨rfl, trivial⟩⟩⟩⟩⟩ ?_
          exact ih z11 z12 (by omega) (by omega) (by omega)
      · refine s_iload_n C dX9_next_49 rfl ?_
        refine s_iload_n C dX9_next_50 rfl ?_
        refine s_icmp_ne (tgt := 57) C dX9_next_51 (by decide) (fun q13 => ?_) (fun q13 => ?_)
        · refine s_iload C dX9_next_57 rfl ?_
          refine s_if_lt (tgt := 65) C dX9_next_59 (by decide) (fun q14 => ?_) (fun q14 => ?_)
          · refine s_iinc C dX9_next_65 rfl (by decide) rfl (by decide) (by omega) (fun z15 tz15 => ?_)
            show WP E ad 68 [some (.ref (ad 0)), some (.int i), some (.int k), some (.int a), some (.int z15), some (.int r5)] [] τ
            refine s_goto (tgt := 20) C dX9_next_68 (by decide) ?_
            refine wp_le (lv' := [some (.ref (ad 0)), some (.int i), some (.int k), some (.int a), some (.int z15), none]) ⟨rfl, ⟨rfl, ⟨rfl, ⟨rfl, ⟨rfl, trivial⟩⟩⟩⟩⟩ ?_
            exact ih a z15 (by omega) (by omega) (by omega)
          · refine s_iinc C dX9_next_62 rfl (by decide) rfl (by decide) (by omega) (fun z16 tz16 => ?_)
            show WP E ad 65 [some (.ref (ad 0)), some (.int i), some (.int k), some (.int z16), some (.int z), some (.int r5)] [] τ
            refine s_iinc C dX9_next_65 rfl (by decide) rfl (by decide) (by omega) (fun z17 tz17 => ?_)
            show WP E ad 68 [some (.ref (ad 0)), some (.int i), some (.int k), some (.int z16), some (.int z17), some (.int r5)] [] τ
            refine s_goto (tgt := 20) C dX9_next_68 (by decide) ?_
            refine wp_le (lv' := [some (.ref (ad 0)), some (.int i), some (.int k), some (.int z16), some (.int z17), none]) ⟨rfl, ⟨rfl, ⟨rfl, ⟨rfl, ⟨rfl, trivial⟩⟩⟩⟩⟩ ?_
            exact ih z16 z17 (by omega) (by omega) (by omega)
        · refine s_iload C dX9_next_54 rfl ?_
          exact s_iret C X dX9_next_56 ⟨hXτ, kF, trivial⟩
set_option maxRecDepth 100000 in
theorem c_X9_next (l : Launch) (ad : Nat → Nat) (σ : Sg) (i : Int32) (k : Int32) (hX : IX σ.1)  : Mt l yX9_next cX9_next 6 (some .int) 6 ad σ [.ref (ad 0), .int i, .int k] (oI (fun r τ => IX τ.1 ∧ Fr [62, 63, 64, 65, 49, 50, 51, 52, 53, 54, 55, 56, 57] [(61, 1), (61, 2), (61, 5), (37, 3), (37, 4), (37, 5), (37, 6), (37, 7), (38, 3), (38, 4), (38, 5), (38, 6), (38, 7), (39, 3), (39, 4), (39, 5), (39, 6), (39, 7)] σ τ ∧ True)) := by
  have hpr := hX.pr
  have htot := hX.tot
  have hms := hX.ms
  refine Mt_intro (by decide +kernel) (by simp [lg_sl, Value.category]) (fun E C X => ?_)
  show WP E ad 0 [some (.ref (ad 0)), some (.int i), some (.int k), none, none, none] [] σ
  refine s_aload_n C dX9_next_0 rfl ?_
  refine s_iload_n C dX9_next_1 rfl ?_
  refine s_callVI (st := []) C (c_X9_hasCut l ad σ i hX ) cv_X9_194 y0 rfl rfl rfl ⟨by decide, by decide⟩ (Nat.le_of_ble_eq_true rfl) dX9_next_2 ?_
  intro r1 τ2 h3
  have hXτ2 := h3.1
  have hRτ2 := h3.2.2
  have prτ2 := hXτ2.pr
  have szτ2 := hXτ2.sz
  refine s_if_eq (tgt := 13) C dX9_next_5 (by decide) (fun q4 => ?_) (fun q4 => ?_)
  · refine s_iconst C dX9_next_13 (by decide) (fun z5 tz5 => ?_)
    exact s_iret C X dX9_next_14 ⟨hXτ2, (Fr.tr Fr.rf (Fr.mo h3.2.1 (by decide) (by decide))), trivial⟩
  · refine s_iload_n C dX9_next_8 rfl ?_
    refine s_iconst C dX9_next_9 (by decide) (fun z6 tz6 => ?_)
    refine s_icmp_ge (tgt := 15) C dX9_next_10 (by decide) (fun q7 => ?_) (fun q7 => ?_)
    · refine s_iconst C dX9_next_15 (by decide) (fun z8 tz8 => ?_)
      refine s_istore_n C dX9_next_16 (by decide) (Nat.le_of_ble_eq_true rfl) rfl ?_
      show WP E ad 17 [some (.ref (ad 0)), some (.int i), some (.int k), some (.int z8), none, none] [] τ2
      refine s_iconst C dX9_next_17 (by decide) (fun z9 tz9 => ?_)
      refine s_istore C dX9_next_18 (by decide) (Nat.le_of_ble_eq_true rfl) rfl ?_
      show WP E ad 20 [some (.ref (ad 0)), some (.int i), some (.int k), some (.int z8), some (.int z9), none] [] τ2
      exact L_nextX l ad E σ τ2 (Fr.tr Fr.rf (Fr.mo h3.2.1 (by decide) (by decide))) hXτ2 i k (by omega) C X 100 z8 z9 (by omega) (by omega) (by omega)
    · refine s_iconst C dX9_next_13 (by decide) (fun z10 tz10 => ?_)
      exact s_iret C X dX9_next_14 ⟨hXτ2, (Fr.tr Fr.rf (Fr.mo h3.2.1 (by decide) (by decide))), trivial⟩
set_option maxRecDepth 100000 in
theorem L_lineX (l : Launch) (ad : Nat → Nat) (E : Ev) (σ τ : Sg) (kF : Fr [62, 63, 64, 65, 49, 50, 51, 52, 53, 54, 55, 56, 57] [(61, 1), (61, 2), (61, 5), (37, 3), (37, 4), (37, 5), (37, 6), (37, 7), (38, 3), (38, 4), (38, 5), (38, 6), (38, 7), (39, 3), (39, 4), (39, 5), (39, 6), (39, 7)] σ τ) (hXτ : IX τ.1) (b : Int32) (C : Cx E l (rmk 5) 3 cX9_line RX9) (X : Rx E ad (some .int) (oI (fun r τ => IX τ.1 ∧ Fr [62, 63, 64, 65, 49, 50, 51, 52, 53, 54, 55, 56, 57] [(61, 1), (61, 2), (61, 5), (37, 3), (37, 4), (37, 5), (37, 6), (37, 7), (38, 3), (38, 4), (38, 5), (38, 6), (38, 7), (39, 3), (39, 4), (39, 5), (39, 6), (39, 7)] σ τ ∧ True)))  : ∀ (n : Nat) (z : Int32), (z.toInt ≤ 1295) → (z.toInt + 1).toNat < n → WP E ad 12 [some (.ref (ad 0)), some (.int b), some (.int z)] [] τ := by
  intro n
  induction n with
  | zero => intro z h0 hm9; exact absurd hm9 (Nat.not_lt_zero _)
  | succ n ih =>
    intro z h0 hm9
    have hpr := hXτ.pr
    have hsz := hXτ.sz
    refine s_iload_n C dX9_line_12 rfl ?_
    refine s_if_le (tgt := 43) C dX9_line_13 (by decide) (fun q1 => ?_) (fun q1 => ?_)
    · refine s_iconst C dX9_line_43 (by decide) (fun z2 tz2 => ?_)
      exact s_iret C X dX9_line_44 ⟨hXτ, kF, trivial⟩
    · refine s_aload_n C dX9_line_16 rfl ?_
      refine s_getr (k := 0) (j := 1) C y0 fw_X9_12 rfl dX9_line_17 ?_
      refine s_aload_n C dX9_line_20 rfl ?_
      refine s_getr (k := 6) (j := 61) C y0 fw_X9_58 rfl dX9_line_21 ?_
      refine s_getr (k := 3) (j := 62) C y61 fw_X9_197 rfl dX9_line_24 ?_
      refine s_iload_n C dX9_line_27 rfl ?_
      refine s_iald (r := (τ.1 62 z.toNatClampNeg)) C y62 (by omega) rfl dX9_line_28 ?_
      refine s_callVI (st := []) C (c_X5_endsInMarks l ad τ ((τ.1 62 z.toNatClampNeg)) hXτ (hXτ.rw _)) cv_X9_288 y1 rfl rfl rfl ⟨by decide, by decide⟩ (Nat.le_of_ble_eq_true rfl) dX9_line_29 ?_
      intro r3 τ4 h5
      obtain ⟨eh5, h5⟩ := h5; replace eh5 := eh5.symm; subst eh5
      refine s_if_eq (tgt := 37) C dX9_line_32 (by decide) (fun q6 => ?_) (fun q6 => ?_)
      · refine s_iinc C dX9_line_37 rfl (by decide) rfl (by decide) (by omega) (fun z7 tz7 => ?_)
        show WP E ad 40 [some (.ref (ad 0)), some (.int b), some (.int z7)] [] τ
        refine s_goto (tgt := 12) C dX9_line_40 (by decide) ?_
        exact ih z7 (by omega) (by omega)
      · refine s_iload_n C dX9_line_35 rfl ?_
        exact s_iret C X dX9_line_36 ⟨hXτ, kF, trivial⟩
set_option maxRecDepth 100000 in
theorem c_X9_line (l : Launch) (ad : Nat → Nat) (σ : Sg)  (hX : IX σ.1)  : Mt l yX9_line cX9_line 3 (some .int) 5 ad σ [.ref (ad 0)] (oI (fun r τ => IX τ.1 ∧ Fr [62, 63, 64, 65, 49, 50, 51, 52, 53, 54, 55, 56, 57] [(61, 1), (61, 2), (61, 5), (37, 3), (37, 4), (37, 5), (37, 6), (37, 7), (38, 3), (38, 4), (38, 5), (38, 6), (38, 7), (39, 3), (39, 4), (39, 5), (39, 6), (39, 7)] σ τ ∧ True)) := by
  have hpr := hX.pr
  have htot := hX.tot
  have hms := hX.ms
  refine Mt_intro (by decide +kernel) (by simp [lg_sl, Value.category]) (fun E C X => ?_)
  show WP E ad 0 [some (.ref (ad 0)), none, none] [] σ
  refine s_aload_n C dX9_line_0 rfl ?_
  refine s_callVR (st := []) C (c_X9_freshLattice l ad σ hX) cv_X9_187 y0 rfl rfl rfl ⟨by decide, by decide⟩ (Nat.le_of_ble_eq_true rfl) dX9_line_1 ?_
  intro r1 τ2 h3
  obtain ⟨eh3, h3⟩ := h3; subst eh3
  have hXτ2 := h3.1
  have szτ2 := hXτ2.sz
  refine s_get (k := 2) (x := (τ2.1 61 2)) C y61 fw_X9_191 rfl rfl dX9_line_4 ?_
  refine s_iconst C dX9_line_7 (by decide) (fun z4 tz4 => ?_)
  refine s_isub C dX9_line_8 (by omega) (fun z5 tz5 => ?_)
  refine s_istore_n C dX9_line_9 (by decide) (Nat.le_of_ble_eq_true rfl) rfl ?_
  show WP E ad 10 [some (.ref (ad 0)), some (.int z5), none] [] τ2
  refine s_iload_n C dX9_line_10 rfl ?_
  refine s_istore_n C dX9_line_11 (by decide) (Nat.le_of_ble_eq_true rfl) rfl ?_
  show WP E ad 12 [some (.ref (ad 0)), some (.int z5), some (.int z5)] [] τ2
  exact L_lineX l ad E σ τ2 (Fr.tr Fr.rf (Fr.mo h3.2 (by decide) (by decide))) hXτ2 z5 C X 5000 z5 (by omega) (by omega)
set_option maxRecDepth 100000 in
theorem c_X9_holds (l : Launch) (ad : Nat → Nat) (σ : Sg) (c : Int32) (i : Int32) (hX : IX σ.1)  : Mt l yX9_holds cX9_holds 4 (some .int) 7 ad σ [.ref (ad 0), .int c, .int i] (oI (fun r τ => IX τ.1 ∧ Fr [62, 63, 64, 65, 49, 50, 51, 52, 53, 54, 55, 56, 57] [(61, 1), (61, 2), (61, 5), (37, 3), (37, 4), (37, 5), (37, 6), (37, 7), (38, 3), (38, 4), (38, 5), (38, 6), (38, 7), (39, 3), (39, 4), (39, 5), (39, 6), (39, 7)] σ τ ∧ True)) := by
  have hpr := hX.pr
  have htot := hX.tot
  have hms := hX.ms
  refine Mt_intro (by decide +kernel) (by simp [lg_sl, Value.category]) (fun E C X => ?_)
  show WP E ad 0 [some (.ref (ad 0)), some (.int c), some (.int i), none] [] σ
  refine s_aload_n C dX9_holds_0 rfl ?_
  refine s_iload_n C dX9_holds_1 rfl ?_
  refine s_aload_n C dX9_holds_2 rfl ?_
  refine s_iload_n C dX9_holds_3 rfl ?_
  refine s_callVI (st := [.int c, .ref (ad 0)]) C (c_X9_hasCut l ad σ i hX ) cv_X9_194 y0 rfl rfl rfl ⟨by decide, by decide⟩ (Nat.le_of_ble_eq_true rfl) dX9_holds_4 ?_
  intro r1 τ2 h3
  have hXτ2 := h3.1
  have hRτ2 := h3.2.2
  have prτ2 := hXτ2.pr
  have szτ2 := hXτ2.sz
  refine s_callVI (st := []) C (c_X9_lackOf l ad τ2 c r1 ) cv_X9_259 y0 rfl rfl rfl ⟨by decide, by decide⟩ (Nat.le_of_ble_eq_true rfl) dX9_holds_7 ?_
  intro r4 τ5 h6
  obtain ⟨eh6, h6⟩ := h6; replace eh6 := eh6.symm; subst eh6
  refine s_istore_n C dX9_holds_10 (by decide) (Nat.le_of_ble_eq_true rfl) rfl ?_
  show WP E ad 11 [some (.ref (ad 0)), some (.int c), some (.int i), some (.int r4)] [] τ2
  refine s_iload_n C dX9_holds_11 rfl ?_
  refine s_if_eq (tgt := 19) C dX9_holds_12 (by decide) (fun q7 => ?_) (fun q7 => ?_)
  · obtain hc8 | hc8 | hc8 : c.toInt = 0 ∨ c.toInt = 1 ∨ c.toInt = 2 := by omega
    · have hnhc8 : c.toNatClampNeg = 0 := by unfold Int32.toNatClampNeg; omega
      refine s_aload_n C dX9_holds_19 rfl ?_
      refine s_iload_n C dX9_holds_20 rfl ?_
      refine s_callVR (st := []) C (c_X9_freshSurvey_0 l ad τ2 c hXτ2 (by omega)) cv_X9_263 y0 rfl rfl rfl ⟨by decide, by decide⟩ (Nat.le_of_ble_eq_true rfl) dX9_holds_21 ?_
      intro r9 τ10 h11
      obtain ⟨eh11, h11⟩ := h11; subst eh11
      have hXτ10 := h11.1
      have prτ10 := hXτ10.pr
      have szτ10 := hXτ10.sz
      refine s_iload_n C dX9_holds_24 rfl ?_
      refine s_callVI (st := []) C (c_X7_meetsAt_0 l ad τ10 i hXτ10 (by omega)) cv_X9_267 y37 rfl rfl rfl ⟨by decide, by decide⟩ (Nat.le_of_ble_eq_true rfl) dX9_holds_25 ?_
      intro r12 τ13 h14
      obtain ⟨eh14, h14⟩ := h14; replace eh14 := eh14.symm; subst eh14
      exact s_iret C X dX9_holds_28 ⟨hXτ10, (Fr.tr (Fr.tr Fr.rf (Fr.mo h3.2.1 (by decide) (by decide))) (Fr.mo h11.2 (by decide) (by decide))), trivial⟩
    · have hnhc8 : c.toNatClampNeg = 1 := by unfold Int32.toNatClampNeg; omega
      refine s_aload_n C dX9_holds_19 rfl ?_
      refine s_iload_n C dX9_holds_20 rfl ?_
      refine s_callVR (st := []) C (c_X9_freshSurvey_1 l ad τ2 c hXτ2 (by omega)) cv_X9_263 y0 rfl rfl rfl ⟨by decide, by decide⟩ (Nat.le_of_ble_eq_true rfl) dX9_holds_21 ?_
      intro r15 τ16 h17
      obtain ⟨eh17, h17⟩ := h17; subst eh17
      have hXτ16 := h17.1
      have prτ16 := hXτ16.pr
      have szτ16 := hXτ16.sz
      refine s_iload_n C dX9_holds_24 rfl ?_
      refine s_callVI (st := []) C (c_X7_meetsAt_1 l ad τ16 i hXτ16 (by omega)) cv_X9_267 y38 rfl rfl rfl ⟨by decide, by decide⟩ (Nat.le_of_ble_eq_true rfl) dX9_holds_25 ?_
      intro r18 τ19 h20
      obtain ⟨eh20, h20⟩ := h20; replace eh20 := eh20.symm; subst eh20
      exact s_iret C X dX9_holds_28 ⟨hXτ16, (Fr.tr (Fr.tr Fr.rf (Fr.mo h3.2.1 (by decide) (by decide))) (Fr.mo h17.2 (by decide) (by decide))), trivial⟩
    · have hnhc8 : c.toNatClampNeg = 2 := by unfold Int32.toNatClampNeg; omega
      refine s_aload_n C dX9_holds_19 rfl ?_
      refine s_iload_n C dX9_holds_20 rfl ?_
      refine s_callVR (st := []) C (c_X9_freshSurvey_2 l ad τ2 c hXτ2 (by omega)) cv_X9_263 y0 rfl rfl rfl ⟨by decide, by decide⟩ (Nat.le_of_ble_eq_true rfl) dX9_holds_21 ?_
      intro r21 τ22 h23
      obtain ⟨eh23, h23⟩ := h23; subst eh23
      have hXτ22 := h23.1
      have prτ22 := hXτ22.pr
      have szτ22 := hXτ22.sz
      refine s_iload_n C dX9_holds_24 rfl ?_
      refine s_callVI (st := []) C (c_X7_meetsAt_2 l ad τ22 i hXτ22 (by omega)) cv_X9_267 y39 rfl rfl rfl ⟨by decide, by decide⟩ (Nat.le_of_ble_eq_true rfl) dX9_holds_25 ?_
      intro r24 τ25 h26
      obtain ⟨eh26, h26⟩ := h26; replace eh26 := eh26.symm; subst eh26
      exact s_iret C X dX9_holds_28 ⟨hXτ22, (Fr.tr (Fr.tr Fr.rf (Fr.mo h3.2.1 (by decide) (by decide))) (Fr.mo h23.2 (by decide) (by decide))), trivial⟩
  · refine s_iload_n C dX9_holds_15 rfl ?_
    refine s_goto (tgt := 28) C dX9_holds_16 (by decide) ?_
    exact s_iret C X dX9_holds_28 ⟨hXτ2, (Fr.tr Fr.rf (Fr.mo h3.2.1 (by decide) (by decide))), trivial⟩
set_option maxRecDepth 100000 in
theorem c_X9_possible (l : Launch) (ad : Nat → Nat) (σ : Sg) (c : Int32) (k : Int32) (hX : IX σ.1)  : Mt l yX9_possible cX9_possible 4 (some .int) 7 ad σ [.ref (ad 0), .int c, .int k] (oI (fun r τ => IX τ.1 ∧ Fr [62, 63, 64, 65, 49, 50, 51, 52, 53, 54, 55, 56, 57] [(61, 1), (61, 2), (61, 5), (37, 3), (37, 4), (37, 5), (37, 6), (37, 7), (38, 3), (38, 4), (38, 5), (38, 6), (38, 7), (39, 3), (39, 4), (39, 5), (39, 6), (39, 7)] σ τ ∧ True)) := by
  have hpr := hX.pr
  have htot := hX.tot
  have hms := hX.ms
  refine Mt_intro (by decide +kernel) (by simp [lg_sl, Value.category]) (fun E C X => ?_)
  show WP E ad 0 [some (.ref (ad 0)), some (.int c), some (.int k), none] [] σ
  refine s_aload_n C dX9_possible_0 rfl ?_
  refine s_iload_n C dX9_possible_1 rfl ?_
  refine s_iload_n C dX9_possible_2 rfl ?_
  refine s_iconst C dX9_possible_3 (by decide) (fun z1 tz1 => ?_)
  refine s_icmp_lt (tgt := 11) C dX9_possible_4 (by decide) (fun q2 => ?_) (fun q2 => ?_)
  · refine s_iconst C dX9_possible_11 (by decide) (fun z3 tz3 => ?_)
    refine s_callVI (st := []) C (c_X9_lackOf l ad σ c z3 ) cv_X9_259 y0 rfl rfl rfl ⟨by decide, by decide⟩ (Nat.le_of_ble_eq_true rfl) dX9_possible_12 ?_
    intro r4 τ5 h6
    obtain ⟨eh6, h6⟩ := h6; replace eh6 := eh6.symm; subst eh6
    refine s_istore_n C dX9_possible_15 (by decide) (Nat.le_of_ble_eq_true rfl) rfl ?_
    show WP E ad 16 [some (.ref (ad 0)), some (.int c), some (.int k), some (.int r4)] [] σ
    refine s_iload_n C dX9_possible_16 rfl ?_
    refine s_if_eq (tgt := 24) C dX9_possible_17 (by decide) (fun q7 => ?_) (fun q7 => ?_)
    · obtain hc8 | hc8 | hc8 : c.toInt = 0 ∨ c.toInt = 1 ∨ c.toInt = 2 := by omega
      · have hnhc8 : c.toNatClampNeg = 0 := by unfold Int32.toNatClampNeg; omega
        refine s_aload_n C dX9_possible_24 rfl ?_
        refine s_iload_n C dX9_possible_25 rfl ?_
        refine s_callVR (st := []) C (c_X9_freshSurvey_0 l ad σ c hX (by omega)) cv_X9_263 y0 rfl rfl rfl ⟨by decide, by decide⟩ (Nat.le_of_ble_eq_true rfl) dX9_possible_26 ?_
        intro r9 τ10 h11
        obtain ⟨eh11, h11⟩ := h11; subst eh11
        have hXτ10 := h11.1
        have prτ10 := hXτ10.pr
        have szτ10 := hXτ10.sz
        refine s_iload_n C dX9_possible_29 rfl ?_
        refine s_callVI (st := []) C (c_X7_pickMet_0 l ad τ10 k hXτ10 (by omega)) cv_X9_270 y37 rfl rfl rfl ⟨by decide, by decide⟩ (Nat.le_of_ble_eq_true rfl) dX9_possible_30 ?_
        intro r12 τ13 h14
        obtain ⟨eh14, h14⟩ := h14; replace eh14 := eh14.symm; subst eh14
        exact s_iret C X dX9_possible_33 ⟨hXτ10, (Fr.tr Fr.rf (Fr.mo h11.2 (by decide) (by decide))), trivial⟩
      · have hnhc8 : c.toNatClampNeg = 1 := by unfold Int32.toNatClampNeg; omega
        refine s_aload_n C dX9_possible_24 rfl ?_
        refine s_iload_n C dX9_possible_25 rfl ?_
        refine s_callVR (st := []) C (c_X9_freshSurvey_1 l ad σ c hX (by omega)) cv_X9_263 y0 rfl rfl rfl ⟨by decide, by decide⟩ (Nat.le_of_ble_eq_true rfl) dX9_possible_26 ?_
        intro r15 τ16 h17
        obtain ⟨eh17, h17⟩ := h17; subst eh17
        have hXτ16 := h17.1
        have prτ16 := hXτ16.pr
        have szτ16 := hXτ16.sz
        refine s_iload_n C dX9_possible_29 rfl ?_
        refine s_callVI (st := []) C (c_X7_pickMet_1 l ad τ16 k hXτ16 (by omega)) cv_X9_270 y38 rfl rfl rfl ⟨by decide, by decide⟩ (Nat.le_of_ble_eq_true rfl) dX9_possible_30 ?_
        intro r18 τ19 h20
        obtain ⟨eh20, h20⟩ := h20; replace eh20 := eh20.symm; subst eh20
        exact s_iret C X dX9_possible_33 ⟨hXτ16, (Fr.tr Fr.rf (Fr.mo h17.2 (by decide) (by decide))), trivial⟩
      · have hnhc8 : c.toNatClampNeg = 2 := by unfold Int32.toNatClampNeg; omega
        refine s_aload_n C dX9_possible_24 rfl ?_
        refine s_iload_n C dX9_possible_25 rfl ?_
        refine s_callVR (st := []) C (c_X9_freshSurvey_2 l ad σ c hX (by omega)) cv_X9_263 y0 rfl rfl rfl ⟨by decide, by decide⟩ (Nat.le_of_ble_eq_true rfl) dX9_possible_26 ?_
        intro r21 τ22 h23
        obtain ⟨eh23, h23⟩ := h23; subst eh23
        have hXτ22 := h23.1
        have prτ22 := hXτ22.pr
        have szτ22 := hXτ22.sz
        refine s_iload_n C dX9_possible_29 rfl ?_
        refine s_callVI (st := []) C (c_X7_pickMet_2 l ad τ22 k hXτ22 (by omega)) cv_X9_270 y39 rfl rfl rfl ⟨by decide, by decide⟩ (Nat.le_of_ble_eq_true rfl) dX9_possible_30 ?_
        intro r24 τ25 h26
        obtain ⟨eh26, h26⟩ := h26; replace eh26 := eh26.symm; subst eh26
        exact s_iret C X dX9_possible_33 ⟨hXτ22, (Fr.tr Fr.rf (Fr.mo h23.2 (by decide) (by decide))), trivial⟩
    · refine s_iload_n C dX9_possible_20 rfl ?_
      refine s_goto (tgt := 33) C dX9_possible_21 (by decide) ?_
      exact s_iret C X dX9_possible_33 ⟨hX, Fr.rf, trivial⟩
  · refine s_iconst C dX9_possible_7 (by decide) (fun z27 tz27 => ?_)
    refine s_goto (tgt := 12) C dX9_possible_8 (by decide) ?_
    refine s_callVI (st := []) C (c_X9_lackOf l ad σ c z27 ) cv_X9_259 y0 rfl rfl rfl ⟨by decide, by decide⟩ (Nat.le_of_ble_eq_true rfl) dX9_possible_12 ?_
    intro r28 τ29 h30
    obtain ⟨eh30, h30⟩ := h30; replace eh30 := eh30.symm; subst eh30
    refine s_istore_n C dX9_possible_15 (by decide) (Nat.le_of_ble_eq_true rfl) rfl ?_
    show WP E ad 16 [some (.ref (ad 0)), some (.int c), some (.int k), some (.int r28)] [] σ
    refine s_iload_n C dX9_possible_16 rfl ?_
    refine s_if_eq (tgt := 24) C dX9_possible_17 (by decide) (fun q31 => ?_) (fun q31 => ?_)
    · obtain hc32 | hc32 | hc32 : c.toInt = 0 ∨ c.toInt = 1 ∨ c.toInt = 2 := by omega
      · have hnhc32 : c.toNatClampNeg = 0 := by unfold Int32.toNatClampNeg; omega
        refine s_aload_n C dX9_possible_24 rfl ?_
        refine s_iload_n C dX9_possible_25 rfl ?_
        refine s_callVR (st := []) C (c_X9_freshSurvey_0 l ad σ c hX (by omega)) cv_X9_263 y0 rfl rfl rfl ⟨by decide, by decide⟩ (Nat.le_of_ble_eq_true rfl) dX9_possible_26 ?_
        intro r33 τ34 h35
        obtain ⟨eh35, h35⟩ := h35; subst eh35
        have hXτ34 := h35.1
        have prτ34 := hXτ34.pr
        have szτ34 := hXτ34.sz
        refine s_iload_n C dX9_possible_29 rfl ?_
        refine s_callVI (st := []) C (c_X7_pickMet_0 l ad τ34 k hXτ34 (by omega)) cv_X9_270 y37 rfl rfl rfl ⟨by decide, by decide⟩ (Nat.le_of_ble_eq_true rfl) dX9_possible_30 ?_
        intro r36 τ37 h38
        obtain ⟨eh38, h38⟩ := h38; replace eh38 := eh38.symm; subst eh38
        exact s_iret C X dX9_possible_33 ⟨hXτ34, (Fr.tr Fr.rf (Fr.mo h35.2 (by decide) (by decide))), trivial⟩
      · have hnhc32 : c.toNatClampNeg = 1 := by unfold Int32.toNatClampNeg; omega
        refine s_aload_n C dX9_possible_24 rfl ?_
        refine s_iload_n C dX9_possible_25 rfl ?_
        refine s_callVR (st := []) C (c_X9_freshSurvey_1 l ad σ c hX (by omega)) cv_X9_263 y0 rfl rfl rfl ⟨by decide, by decide⟩ (Nat.le_of_ble_eq_true rfl) dX9_possible_26 ?_
        intro r39 τ40 h41
        obtain ⟨eh41, h41⟩ := h41; subst eh41
        have hXτ40 := h41.1
        have prτ40 := hXτ40.pr
        have szτ40 := hXτ40.sz
        refine s_iload_n C dX9_possible_29 rfl ?_
        refine s_callVI (st := []) C (c_X7_pickMet_1 l ad τ40 k hXτ40 (by omega)) cv_X9_270 y38 rfl rfl rfl ⟨by decide, by decide⟩ (Nat.le_of_ble_eq_true rfl) dX9_possible_30 ?_
        intro r42 τ43 h44
        obtain ⟨eh44, h44⟩ := h44; replace eh44 := eh44.symm; subst eh44
        exact s_iret C X dX9_possible_33 ⟨hXτ40, (Fr.tr Fr.rf (Fr.mo h41.2 (by decide) (by decide))), trivial⟩
      · have hnhc32 : c.toNatClampNeg = 2 := by unfold Int32.toNatClampNeg; omega
        refine s_aload_n C dX9_possible_24 rfl ?_
        refine s_iload_n C dX9_possible_25 rfl ?_
        refine s_callVR (st := []) C (c_X9_freshSurvey_2 l ad σ c hX (by omega)) cv_X9_263 y0 rfl rfl rfl ⟨by decide, by decide⟩ (Nat.le_of_ble_eq_true rfl) dX9_possible_26 ?_
        intro r45 τ46 h47
        obtain ⟨eh47, h47⟩ := h47; subst eh47
        have hXτ46 := h47.1
        have prτ46 := hXτ46.pr
        have szτ46 := hXτ46.sz
        refine s_iload_n C dX9_possible_29 rfl ?_
        refine s_callVI (st := []) C (c_X7_pickMet_2 l ad τ46 k hXτ46 (by omega)) cv_X9_270 y39 rfl rfl rfl ⟨by decide, by decide⟩ (Nat.le_of_ble_eq_true rfl) dX9_possible_30 ?_
        intro r48 τ49 h50
        obtain ⟨eh50, h50⟩ := h50; replace eh50 := eh50.symm; subst eh50
        exact s_iret C X dX9_possible_33 ⟨hXτ46, (Fr.tr Fr.rf (Fr.mo h47.2 (by decide) (by decide))), trivial⟩
    · refine s_iload_n C dX9_possible_20 rfl ?_
      refine s_goto (tgt := 33) C dX9_possible_21 (by decide) ?_
      exact s_iret C X dX9_possible_33 ⟨hX, Fr.rf, trivial⟩
set_option maxRecDepth 100000 in
theorem c_X9_sure (l : Launch) (ad : Nat → Nat) (σ : Sg) (c : Int32) (hX : IX σ.1)  : Mt l yX9_sure cX9_sure 3 (some .int) 7 ad σ [.ref (ad 0), .int c] (oI (fun r τ => IX τ.1 ∧ Fr [62, 63, 64, 65, 49, 50, 51, 52, 53, 54, 55, 56, 57] [(61, 1), (61, 2), (61, 5), (37, 3), (37, 4), (37, 5), (37, 6), (37, 7), (38, 3), (38, 4), (38, 5), (38, 6), (38, 7), (39, 3), (39, 4), (39, 5), (39, 6), (39, 7)] σ τ ∧ True)) := by
  have hpr := hX.pr
  have htot := hX.tot
  have hms := hX.ms
  refine Mt_intro (by decide +kernel) (by simp [lg_sl, Value.category]) (fun E C X => ?_)
  show WP E ad 0 [some (.ref (ad 0)), some (.int c), none] [] σ
  refine s_aload_n C dX9_sure_0 rfl ?_
  refine s_iload_n C dX9_sure_1 rfl ?_
  refine s_iconst C dX9_sure_2 (by decide) (fun z1 tz1 => ?_)
  refine s_callVI (st := []) C (c_X9_lackOf l ad σ c z1 ) cv_X9_259 y0 rfl rfl rfl ⟨by decide, by decide⟩ (Nat.le_of_ble_eq_true rfl) dX9_sure_3 ?_
  intro r2 τ3 h4
  obtain ⟨eh4, h4⟩ := h4; replace eh4 := eh4.symm; subst eh4
  refine s_istore_n C dX9_sure_6 (by decide) (Nat.le_of_ble_eq_true rfl) rfl ?_
  show WP E ad 7 [some (.ref (ad 0)), some (.int c), some (.int r2)] [] σ
  refine s_iload_n C dX9_sure_7 rfl ?_
  refine s_if_eq (tgt := 13) C dX9_sure_8 (by decide) (fun q5 => ?_) (fun q5 => ?_)
  · obtain hc6 | hc6 | hc6 : c.toInt = 0 ∨ c.toInt = 1 ∨ c.toInt = 2 := by omega
    · have hnhc6 : c.toNatClampNeg = 0 := by unfold Int32.toNatClampNeg; omega
      refine s_aload_n C dX9_sure_13 rfl ?_
      refine s_iload_n C dX9_sure_14 rfl ?_
      refine s_callVR (st := []) C (c_X9_freshSurvey_0 l ad σ c hX (by omega)) cv_X9_263 y0 rfl rfl rfl ⟨by decide, by decide⟩ (Nat.le_of_ble_eq_true rfl) dX9_sure_15 ?_
      intro r7 τ8 h9
      obtain ⟨eh9, h9⟩ := h9; subst eh9
      have hXτ8 := h9.1
      have prτ8 := hXτ8.pr
      have szτ8 := hXτ8.sz
      refine s_callVI (st := []) C (c_X7_hasWayRound_0 l ad τ8  hXτ8 ) cv_X9_273 y37 rfl rfl rfl ⟨by decide, by decide⟩ (Nat.le_of_ble_eq_true rfl) dX9_sure_18 ?_
      intro r10 τ11 h12
      have hXτ11 := h12.1
      have hRτ11 := h12.2.2
      have prτ11 := hXτ11.pr
      have szτ11 := hXτ11.sz
      refine s_if_eq (tgt := 28) C dX9_sure_21 (by decide) (fun q13 => ?_) (fun q13 => ?_)
      · refine s_iconst C dX9_sure_28 (by decide) (fun z14 tz14 => ?_)
        exact s_iret C X dX9_sure_29 ⟨hXτ11, (Fr.tr (Fr.tr Fr.rf (Fr.mo h9.2 (by decide) (by decide))) (Fr.mo h12.2.1 (by decide) (by decide))), trivial⟩
      · refine s_iconst C dX9_sure_24 (by decide) (fun z15 tz15 => ?_)
        refine s_goto (tgt := 29) C dX9_sure_25 (by decide) ?_
        exact s_iret C X dX9_sure_29 ⟨hXτ11, (Fr.tr (Fr.tr Fr.rf (Fr.mo h9.2 (by decide) (by decide))) (Fr.mo h12.2.1 (by decide) (by decide))), trivial⟩
    · have hnhc6 : c.toNatClampNeg = 1 := by unfold Int32.toNatClampNeg; omega
      refine s_aload_n C dX9_sure_13 rfl ?_
      refine s_iload_n C dX9_sure_14 rfl ?_
      refine s_callVR (st := []) C (c_X9_freshSurvey_1 l ad σ c hX (by omega)) cv_X9_263 y0 rfl rfl rfl ⟨by decide, by decide⟩ (Nat.le_of_ble_eq_true rfl) dX9_sure_15 ?_
      intro r16 τ17 h18
      obtain ⟨eh18, h18⟩ := h18; subst eh18
      have hXτ17 := h18.1
      have prτ17 := hXτ17.pr
      have szτ17 := hXτ17.sz
      refine s_callVI (st := []) C (c_X7_hasWayRound_1 l ad τ17  hXτ17 ) cv_X9_273 y38 rfl rfl rfl ⟨by decide, by decide⟩ (Nat.le_of_ble_eq_true rfl) dX9_sure_18 ?_
      intro r19 τ20 h21
      have hXτ20 := h21.1
      have hRτ20 := h21.2.2
      have prτ20 := hXτ20.pr
      have szτ20 := hXτ20.sz
      refine s_if_eq (tgt := 28) C dX9_sure_21 (by decide) (fun q22 => ?_) (fun q22 => ?_)
      · refine s_iconst C dX9_sure_28 (by decide) (fun z23 tz23 => ?_)
        exact s_iret C X dX9_sure_29 ⟨hXτ20, (Fr.tr (Fr.tr Fr.rf (Fr.mo h18.2 (by decide) (by decide))) (Fr.mo h21.2.1 (by decide) (by decide))), trivial⟩
      · refine s_iconst C dX9_sure_24 (by decide) (fun z24 tz24 => ?_)
        refine s_goto (tgt := 29) C dX9_sure_25 (by decide) ?_
        exact s_iret C X dX9_sure_29 ⟨hXτ20, (Fr.tr (Fr.tr Fr.rf (Fr.mo h18.2 (by decide) (by decide))) (Fr.mo h21.2.1 (by decide) (by decide))), trivial⟩
    · have hnhc6 : c.toNatClampNeg = 2 := by unfold Int32.toNatClampNeg; omega
      refine s_aload_n C dX9_sure_13 rfl ?_
      refine s_iload_n C dX9_sure_14 rfl ?_
      refine s_callVR (st := []) C (c_X9_freshSurvey_2 l ad σ c hX (by omega)) cv_X9_263 y0 rfl rfl rfl ⟨by decide, by decide⟩ (Nat.le_of_ble_eq_true rfl) dX9_sure_15 ?_
      intro r25 τ26 h27
      obtain ⟨eh27, h27⟩ := h27; subst eh27
      have hXτ26 := h27.1
      have prτ26 := hXτ26.pr
      have szτ26 := hXτ26.sz
      refine s_callVI (st := []) C (c_X7_hasWayRound_2 l ad τ26  hXτ26 ) cv_X9_273 y39 rfl rfl rfl ⟨by decide, by decide⟩ (Nat.le_of_ble_eq_true rfl) dX9_sure_18 ?_
      intro r28 τ29 h30
      have hXτ29 := h30.1
      have hRτ29 := h30.2.2
      have prτ29 := hXτ29.pr
      have szτ29 := hXτ29.sz
      refine s_if_eq (tgt := 28) C dX9_sure_21 (by decide) (fun q31 => ?_) (fun q31 => ?_)
      · refine s_iconst C dX9_sure_28 (by decide) (fun z32 tz32 => ?_)
        exact s_iret C X dX9_sure_29 ⟨hXτ29, (Fr.tr (Fr.tr Fr.rf (Fr.mo h27.2 (by decide) (by decide))) (Fr.mo h30.2.1 (by decide) (by decide))), trivial⟩
      · refine s_iconst C dX9_sure_24 (by decide) (fun z33 tz33 => ?_)
        refine s_goto (tgt := 29) C dX9_sure_25 (by decide) ?_
        exact s_iret C X dX9_sure_29 ⟨hXτ29, (Fr.tr (Fr.tr Fr.rf (Fr.mo h27.2 (by decide) (by decide))) (Fr.mo h30.2.1 (by decide) (by decide))), trivial⟩
  · refine s_iload_n C dX9_sure_11 rfl ?_
    exact s_iret C X dX9_sure_12 ⟨hX, Fr.rf, trivial⟩
set_option maxRecDepth 100000 in
theorem c_X9_around (l : Launch) (ad : Nat → Nat) (σ : Sg) (c : Int32) (k : Int32) (hX : IX σ.1)  : Mt l yX9_around cX9_around 4 (some .int) 7 ad σ [.ref (ad 0), .int c, .int k] (oI (fun r τ => IX τ.1 ∧ Fr [62, 63, 64, 65, 49, 50, 51, 52, 53, 54, 55, 56, 57] [(61, 1), (61, 2), (61, 5), (37, 3), (37, 4), (37, 5), (37, 6), (37, 7), (38, 3), (38, 4), (38, 5), (38, 6), (38, 7), (39, 3), (39, 4), (39, 5), (39, 6), (39, 7)] σ τ ∧ True)) := by
  have hpr := hX.pr
  have htot := hX.tot
  have hms := hX.ms
  refine Mt_intro (by decide +kernel) (by simp [lg_sl, Value.category]) (fun E C X => ?_)
  show WP E ad 0 [some (.ref (ad 0)), some (.int c), some (.int k), none] [] σ
  refine s_aload_n C dX9_around_0 rfl ?_
  refine s_iload_n C dX9_around_1 rfl ?_
  refine s_iload_n C dX9_around_2 rfl ?_
  refine s_iconst C dX9_around_3 (by decide) (fun z1 tz1 => ?_)
  refine s_icmp_lt (tgt := 11) C dX9_around_4 (by decide) (fun q2 => ?_) (fun q2 => ?_)
  · refine s_iconst C dX9_around_11 (by decide) (fun z3 tz3 => ?_)
    refine s_callVI (st := []) C (c_X9_lackOf l ad σ c z3 ) cv_X9_259 y0 rfl rfl rfl ⟨by decide, by decide⟩ (Nat.le_of_ble_eq_true rfl) dX9_around_12 ?_
    intro r4 τ5 h6
    obtain ⟨eh6, h6⟩ := h6; replace eh6 := eh6.symm; subst eh6
    refine s_istore_n C dX9_around_15 (by decide) (Nat.le_of_ble_eq_true rfl) rfl ?_
    show WP E ad 16 [some (.ref (ad 0)), some (.int c), some (.int k), some (.int r4)] [] σ
    refine s_iload_n C dX9_around_16 rfl ?_
    refine s_if_eq (tgt := 24) C dX9_around_17 (by decide) (fun q7 => ?_) (fun q7 => ?_)
    · obtain hc8 | hc8 | hc8 : c.toInt = 0 ∨ c.toInt = 1 ∨ c.toInt = 2 := by omega
      · have hnhc8 : c.toNatClampNeg = 0 := by unfold Int32.toNatClampNeg; omega
        refine s_aload_n C dX9_around_24 rfl ?_
        refine s_iload_n C dX9_around_25 rfl ?_
        refine s_callVR (st := []) C (c_X9_freshSurvey_0 l ad σ c hX (by omega)) cv_X9_263 y0 rfl rfl rfl ⟨by decide, by decide⟩ (Nat.le_of_ble_eq_true rfl) dX9_around_26 ?_
        intro r9 τ10 h11
        obtain ⟨eh11, h11⟩ := h11; subst eh11
        have hXτ10 := h11.1
        have prτ10 := hXτ10.pr
        have szτ10 := hXτ10.sz
        refine s_iload_n C dX9_around_29 rfl ?_
        refine s_callVI (st := []) C (c_X7_stepRound_0 l ad τ10 k hXτ10 (by omega)) cv_X9_276 y37 rfl rfl rfl ⟨by decide, by decide⟩ (Nat.le_of_ble_eq_true rfl) dX9_around_30 ?_
        intro r12 τ13 h14
        have hXτ13 := h14.1
        have hRτ13 := h14.2.2
        have prτ13 := hXτ13.pr
        have szτ13 := hXτ13.sz
        exact s_iret C X dX9_around_33 ⟨hXτ13, (Fr.tr (Fr.tr Fr.rf (Fr.mo h11.2 (by decide) (by decide))) (Fr.mo h14.2.1 (by decide) (by decide))), trivial⟩
      · have hnhc8 : c.toNatClampNeg = 1 := by unfold Int32.toNatClampNeg; omega
        refine s_aload_n C dX9_around_24 rfl ?_
        refine s_iload_n C dX9_around_25 rfl ?_
        refine s_callVR (st := []) C (c_X9_freshSurvey_1 l ad σ c hX (by omega)) cv_X9_263 y0 rfl rfl rfl ⟨by decide, by decide⟩ (Nat.le_of_ble_eq_true rfl) dX9_around_26 ?_
        intro r15 τ16 h17
        obtain ⟨eh17, h17⟩ := h17; subst eh17
        have hXτ16 := h17.1
        have prτ16 := hXτ16.pr
        have szτ16 := hXτ16.sz
        refine s_iload_n C dX9_around_29 rfl ?_
        refine s_callVI (st := []) C (c_X7_stepRound_1 l ad τ16 k hXτ16 (by omega)) cv_X9_276 y38 rfl rfl rfl ⟨by decide, by decide⟩ (Nat.le_of_ble_eq_true rfl) dX9_around_30 ?_
        intro r18 τ19 h20
        have hXτ19 := h20.1
        have hRτ19 := h20.2.2
        have prτ19 := hXτ19.pr
        have szτ19 := hXτ19.sz
        exact s_iret C X dX9_around_33 ⟨hXτ19, (Fr.tr (Fr.tr Fr.rf (Fr.mo h17.2 (by decide) (by decide))) (Fr.mo h20.2.1 (by decide) (by decide))), trivial⟩
      · have hnhc8 : c.toNatClampNeg = 2 := by unfold Int32.toNatClampNeg; omega
        refine s_aload_n C dX9_around_24 rfl ?_
        refine s_iload_n C dX9_around_25 rfl ?_
        refine s_callVR (st := []) C (c_X9_freshSurvey_2 l ad σ c hX (by omega)) cv_X9_263 y0 rfl rfl rfl ⟨by decide, by decide⟩ (Nat.le_of_ble_eq_true rfl) dX9_around_26 ?_
        intro r21 τ22 h23
        obtain ⟨eh23, h23⟩ := h23; subst eh23
        have hXτ22 := h23.1
        have prτ22 := hXτ22.pr
        have szτ22 := hXτ22.sz
        refine s_iload_n C dX9_around_29 rfl ?_
        refine s_callVI (st := []) C (c_X7_stepRound_2 l ad τ22 k hXτ22 (by omega)) cv_X9_276 y39 rfl rfl rfl ⟨by decide, by decide⟩ (Nat.le_of_ble_eq_true rfl) dX9_around_30 ?_
        intro r24 τ25 h26
        have hXτ25 := h26.1
        have hRτ25 := h26.2.2
        have prτ25 := hXτ25.pr
        have szτ25 := hXτ25.sz
        exact s_iret C X dX9_around_33 ⟨hXτ25, (Fr.tr (Fr.tr Fr.rf (Fr.mo h23.2 (by decide) (by decide))) (Fr.mo h26.2.1 (by decide) (by decide))), trivial⟩
    · refine s_iload_n C dX9_around_20 rfl ?_
      refine s_goto (tgt := 33) C dX9_around_21 (by decide) ?_
      exact s_iret C X dX9_around_33 ⟨hX, Fr.rf, trivial⟩
  · refine s_iconst C dX9_around_7 (by decide) (fun z27 tz27 => ?_)
    refine s_goto (tgt := 12) C dX9_around_8 (by decide) ?_
    refine s_callVI (st := []) C (c_X9_lackOf l ad σ c z27 ) cv_X9_259 y0 rfl rfl rfl ⟨by decide, by decide⟩ (Nat.le_of_ble_eq_true rfl) dX9_around_12 ?_
    intro r28 τ29 h30
    obtain ⟨eh30, h30⟩ := h30; replace eh30 := eh30.symm; subst eh30
    refine s_istore_n C dX9_around_15 (by decide) (Nat.le_of_ble_eq_true rfl) rfl ?_
    show WP E ad 16 [some (.ref (ad 0)), some (.int c), some (.int k), some (.int r28)] [] σ
    refine s_iload_n C dX9_around_16 rfl ?_
    refine s_if_eq (tgt := 24) C dX9_around_17 (by decide) (fun q31 => ?_) (fun q31 => ?_)
    · obtain hc32 | hc32 | hc32 : c.toInt = 0 ∨ c.toInt = 1 ∨ c.toInt = 2 := by omega
      · have hnhc32 : c.toNatClampNeg = 0 := by unfold Int32.toNatClampNeg; omega
        refine s_aload_n C dX9_around_24 rfl ?_
        refine s_iload_n C dX9_around_25 rfl ?_
        refine s_callVR (st := []) C (c_X9_freshSurvey_0 l ad σ c hX (by omega)) cv_X9_263 y0 rfl rfl rfl ⟨by decide, by decide⟩ (Nat.le_of_ble_eq_true rfl) dX9_around_26 ?_
        intro r33 τ34 h35
        obtain ⟨eh35, h35⟩ := h35; subst eh35
        have hXτ34 := h35.1
        have prτ34 := hXτ34.pr
        have szτ34 := hXτ34.sz
        refine s_iload_n C dX9_around_29 rfl ?_
        refine s_callVI (st := []) C (c_X7_stepRound_0 l ad τ34 k hXτ34 (by omega)) cv_X9_276 y37 rfl rfl rfl ⟨by decide, by decide⟩ (Nat.le_of_ble_eq_true rfl) dX9_around_30 ?_
        intro r36 τ37 h38
        have hXτ37 := h38.1
        have hRτ37 := h38.2.2
        have prτ37 := hXτ37.pr
        have szτ37 := hXτ37.sz
        exact s_iret C X dX9_around_33 ⟨hXτ37, (Fr.tr (Fr.tr Fr.rf (Fr.mo h35.2 (by decide) (by decide))) (Fr.mo h38.2.1 (by decide) (by decide))), trivial⟩
      · have hnhc32 : c.toNatClampNeg = 1 := by unfold Int32.toNatClampNeg; omega
        refine s_aload_n C dX9_around_24 rfl ?_
        refine s_iload_n C dX9_around_25 rfl ?_
        refine s_callVR (st := []) C (c_X9_freshSurvey_1 l ad σ c hX (by omega)) cv_X9_263 y0 rfl rfl rfl ⟨by decide, by decide⟩ (Nat.le_of_ble_eq_true rfl) dX9_around_26 ?_
        intro r39 τ40 h41
        obtain ⟨eh41, h41⟩ := h41; subst eh41
        have hXτ40 := h41.1
        have prτ40 := hXτ40.pr
        have szτ40 := hXτ40.sz
        refine s_iload_n C dX9_around_29 rfl ?_
        refine s_callVI (st := []) C (c_X7_stepRound_1 l ad τ40 k hXτ40 (by omega)) cv_X9_276 y38 rfl rfl rfl ⟨by decide, by decide⟩ (Nat.le_of_ble_eq_true rfl) dX9_around_30 ?_
        intro r42 τ43 h44
        have hXτ43 := h44.1
        have hRτ43 := h44.2.2
        have prτ43 := hXτ43.pr
        have szτ43 := hXτ43.sz
        exact s_iret C X dX9_around_33 ⟨hXτ43, (Fr.tr (Fr.tr Fr.rf (Fr.mo h41.2 (by decide) (by decide))) (Fr.mo h44.2.1 (by decide) (by decide))), trivial⟩
      · have hnhc32 : c.toNatClampNeg = 2 := by unfold Int32.toNatClampNeg; omega
        refine s_aload_n C dX9_around_24 rfl ?_
        refine s_iload_n C dX9_around_25 rfl ?_
        refine s_callVR (st := []) C (c_X9_freshSurvey_2 l ad σ c hX (by omega)) cv_X9_263 y0 rfl rfl rfl ⟨by decide, by decide⟩ (Nat.le_of_ble_eq_true rfl) dX9_around_26 ?_
        intro r45 τ46 h47
        obtain ⟨eh47, h47⟩ := h47; subst eh47
        have hXτ46 := h47.1
        have prτ46 := hXτ46.pr
        have szτ46 := hXτ46.sz
        refine s_iload_n C dX9_around_29 rfl ?_
        refine s_callVI (st := []) C (c_X7_stepRound_2 l ad τ46 k hXτ46 (by omega)) cv_X9_276 y39 rfl rfl rfl ⟨by decide, by decide⟩ (Nat.le_of_ble_eq_true rfl) dX9_around_30 ?_
        intro r48 τ49 h50
        have hXτ49 := h50.1
        have hRτ49 := h50.2.2
        have prτ49 := hXτ49.pr
        have szτ49 := hXτ49.sz
        exact s_iret C X dX9_around_33 ⟨hXτ49, (Fr.tr (Fr.tr Fr.rf (Fr.mo h47.2 (by decide) (by decide))) (Fr.mo h50.2.1 (by decide) (by decide))), trivial⟩
    · refine s_iload_n C dX9_around_20 rfl ?_
      refine s_goto (tgt := 33) C dX9_around_21 (by decide) ?_
      exact s_iret C X dX9_around_33 ⟨hX, Fr.rf, trivial⟩
set_option maxRecDepth 100000 in
theorem c_X9_slice (l : Launch) (ad : Nat → Nat) (σ : Sg) (c : Int32) (k : Int32) (hX : IX σ.1)  : Mt l yX9_slice cX9_slice 4 (some .int) 7 ad σ [.ref (ad 0), .int c, .int k] (oI (fun r τ => IX τ.1 ∧ Fr [62, 63, 64, 65, 49, 50, 51, 52, 53, 54, 55, 56, 57] [(61, 1), (61, 2), (61, 5), (37, 3), (37, 4), (37, 5), (37, 6), (37, 7), (38, 3), (38, 4), (38, 5), (38, 6), (38, 7), (39, 3), (39, 4), (39, 5), (39, 6), (39, 7)] σ τ ∧ True)) := by
  have hpr := hX.pr
  have htot := hX.tot
  have hms := hX.ms
  refine Mt_intro (by decide +kernel) (by simp [lg_sl, Value.category]) (fun E C X => ?_)
  show WP E ad 0 [some (.ref (ad 0)), some (.int c), some (.int k), none] [] σ
  refine s_aload_n C dX9_slice_0 rfl ?_
  refine s_iload_n C dX9_slice_1 rfl ?_
  refine s_iload_n C dX9_slice_2 rfl ?_
  refine s_iconst C dX9_slice_3 (by decide) (fun z1 tz1 => ?_)
  refine s_icmp_lt (tgt := 11) C dX9_slice_4 (by decide) (fun q2 => ?_) (fun q2 => ?_)
  · refine s_iconst C dX9_slice_11 (by decide) (fun z3 tz3 => ?_)
    refine s_callVI (st := []) C (c_X9_lackOf l ad σ c z3 ) cv_X9_259 y0 rfl rfl rfl ⟨by decide, by decide⟩ (Nat.le_of_ble_eq_true rfl) dX9_slice_12 ?_
    intro r4 τ5 h6
    obtain ⟨eh6, h6⟩ := h6; replace eh6 := eh6.symm; subst eh6
    refine s_istore_n C dX9_slice_15 (by decide) (Nat.le_of_ble_eq_true rfl) rfl ?_
    show WP E ad 16 [some (.ref (ad 0)), some (.int c), some (.int k), some (.int r4)] [] σ
    refine s_iload_n C dX9_slice_16 rfl ?_
    refine s_if_eq (tgt := 24) C dX9_slice_17 (by decide) (fun q7 => ?_) (fun q7 => ?_)
    · obtain hc8 | hc8 | hc8 : c.toInt = 0 ∨ c.toInt = 1 ∨ c.toInt = 2 := by omega
      · have hnhc8 : c.toNatClampNeg = 0 := by unfold Int32.toNatClampNeg; omega
        refine s_aload_n C dX9_slice_24 rfl ?_
        refine s_iload_n C dX9_slice_25 rfl ?_
        refine s_callVR (st := []) C (c_X9_freshSurvey_0 l ad σ c hX (by omega)) cv_X9_263 y0 rfl rfl rfl ⟨by decide, by decide⟩ (Nat.le_of_ble_eq_true rfl) dX9_slice_26 ?_
        intro r9 τ10 h11
        obtain ⟨eh11, h11⟩ := h11; subst eh11
        have hXτ10 := h11.1
        have prτ10 := hXτ10.pr
        have szτ10 := hXτ10.sz
        refine s_iload_n C dX9_slice_29 rfl ?_
        refine s_callVI (st := []) C (c_X7_pickSliced_0 l ad τ10 k hXτ10 (by omega)) cv_X9_279 y37 rfl rfl rfl ⟨by decide, by decide⟩ (Nat.le_of_ble_eq_true rfl) dX9_slice_30 ?_
        intro r12 τ13 h14
        have hXτ13 := h14.1
        have hRτ13 := h14.2.2
        have prτ13 := hXτ13.pr
        have szτ13 := hXτ13.sz
        exact s_iret C X dX9_slice_33 ⟨hXτ13, (Fr.tr (Fr.tr Fr.rf (Fr.mo h11.2 (by decide) (by decide))) (Fr.mo h14.2.1 (by decide) (by decide))), trivial⟩
      · have hnhc8 : c.toNatClampNeg = 1 := by unfold Int32.toNatClampNeg; omega
        refine s_aload_n C dX9_slice_24 rfl ?_
        refine s_iload_n C dX9_slice_25 rfl ?_
        refine s_callVR (st := []) C (c_X9_freshSurvey_1 l ad σ c hX (by omega)) cv_X9_263 y0 rfl rfl rfl ⟨by decide, by decide⟩ (Nat.le_of_ble_eq_true rfl) dX9_slice_26 ?_
        intro r15 τ16 h17
        obtain ⟨eh17, h17⟩ := h17; subst eh17
        have hXτ16 := h17.1
        have prτ16 := hXτ16.pr
        have szτ16 := hXτ16.sz
        refine s_iload_n C dX9_slice_29 rfl ?_
        refine s_callVI (st := []) C (c_X7_pickSliced_1 l ad τ16 k hXτ16 (by omega)) cv_X9_279 y38 rfl rfl rfl ⟨by decide, by decide⟩ (Nat.le_of_ble_eq_true rfl) dX9_slice_30 ?_
        intro r18 τ19 h20
        have hXτ19 := h20.1
        have hRτ19 := h20.2.2
        have prτ19 := hXτ19.pr
        have szτ19 := hXτ19.sz
        exact s_iret C X dX9_slice_33 ⟨hXτ19, (Fr.tr (Fr.tr Fr.rf (Fr.mo h17.2 (by decide) (by decide))) (Fr.mo h20.2.1 (by decide) (by decide))), trivial⟩
      · have hnhc8 : c.toNatClampNeg = 2 := by unfold Int32.toNatClampNeg; omega
        refine s_aload_n C dX9_slice_24 rfl ?_
        refine s_iload_n C dX9_slice_25 rfl ?_
        refine s_callVR (st := []) C (c_X9_freshSurvey_2 l ad σ c hX (by omega)) cv_X9_263 y0 rfl rfl rfl ⟨by decide, by decide⟩ (Nat.le_of_ble_eq_true rfl) dX9_slice_26 ?_
        intro r21 τ22 h23
        obtain ⟨eh23, h23⟩ := h23; subst eh23
        have hXτ22 := h23.1
        have prτ22 := hXτ22.pr
        have szτ22 := hXτ22.sz
        refine s_iload_n C dX9_slice_29 rfl ?_
        refine s_callVI (st := []) C (c_X7_pickSliced_2 l ad τ22 k hXτ22 (by omega)) cv_X9_279 y39 rfl rfl rfl ⟨by decide, by decide⟩ (Nat.le_of_ble_eq_true rfl) dX9_slice_30 ?_
        intro r24 τ25 h26
        have hXτ25 := h26.1
        have hRτ25 := h26.2.2
        have prτ25 := hXτ25.pr
        have szτ25 := hXτ25.sz
        exact s_iret C X dX9_slice_33 ⟨hXτ25, (Fr.tr (Fr.tr Fr.rf (Fr.mo h23.2 (by decide) (by decide))) (Fr.mo h26.2.1 (by decide) (by decide))), trivial⟩
    · refine s_iload_n C dX9_slice_20 rfl ?_
      refine s_goto (tgt := 33) C dX9_slice_21 (by decide) ?_
      exact s_iret C X dX9_slice_33 ⟨hX, Fr.rf, trivial⟩
  · refine s_iconst C dX9_slice_7 (by decide) (fun z27 tz27 => ?_)
    refine s_goto (tgt := 12) C dX9_slice_8 (by decide) ?_
    refine s_callVI (st := []) C (c_X9_lackOf l ad σ c z27 ) cv_X9_259 y0 rfl rfl rfl ⟨by decide, by decide⟩ (Nat.le_of_ble_eq_true rfl) dX9_slice_12 ?_
    intro r28 τ29 h30
    obtain ⟨eh30, h30⟩ := h30; replace eh30 := eh30.symm; subst eh30
    refine s_istore_n C dX9_slice_15 (by decide) (Nat.le_of_ble_eq_true rfl) rfl ?_
    show WP E ad 16 [some (.ref (ad 0)), some (.int c), some (.int k), some (.int r28)] [] σ
    refine s_iload_n C dX9_slice_16 rfl ?_
    refine s_if_eq (tgt := 24) C dX9_slice_17 (by decide) (fun q31 => ?_) (fun q31 => ?_)
    · obtain hc32 | hc32 | hc32 : c.toInt = 0 ∨ c.toInt = 1 ∨ c.toInt = 2 := by omega
      · have hnhc32 : c.toNatClampNeg = 0 := by unfold Int32.toNatClampNeg; omega
        refine s_aload_n C dX9_slice_24 rfl ?_
        refine s_iload_n C dX9_slice_25 rfl ?_
        refine s_callVR (st := []) C (c_X9_freshSurvey_0 l ad σ c hX (by omega)) cv_X9_263 y0 rfl rfl rfl ⟨by decide, by decide⟩ (Nat.le_of_ble_eq_true rfl) dX9_slice_26 ?_
        intro r33 τ34 h35
        obtain ⟨eh35, h35⟩ := h35; subst eh35
        have hXτ34 := h35.1
        have prτ34 := hXτ34.pr
        have szτ34 := hXτ34.sz
        refine s_iload_n C dX9_slice_29 rfl ?_
        refine s_callVI (st := []) C (c_X7_pickSliced_0 l ad τ34 k hXτ34 (by omega)) cv_X9_279 y37 rfl rfl rfl ⟨by decide, by decide⟩ (Nat.le_of_ble_eq_true rfl) dX9_slice_30 ?_
        intro r36 τ37 h38
        have hXτ37 := h38.1
        have hRτ37 := h38.2.2
        have prτ37 := hXτ37.pr
        have szτ37 := hXτ37.sz
        exact s_iret C X dX9_slice_33 ⟨hXτ37, (Fr.tr (Fr.tr Fr.rf (Fr.mo h35.2 (by decide) (by decide))) (Fr.mo h38.2.1 (by decide) (by decide))), trivial⟩
      · have hnhc32 : c.toNatClampNeg = 1 := by unfold Int32.toNatClampNeg; omega
        refine s_aload_n C dX9_slice_24 rfl ?_
        refine s_iload_n C dX9_slice_25 rfl ?_
        refine s_callVR (st := []) C (c_X9_freshSurvey_1 l ad σ c hX (by omega)) cv_X9_263 y0 rfl rfl rfl ⟨by decide, by decide⟩ (Nat.le_of_ble_eq_true rfl) dX9_slice_26 ?_
        intro r39 τ40 h41
        obtain ⟨eh41, h41⟩ := h41; subst eh41
        have hXτ40 := h41.1
        have prτ40 := hXτ40.pr
        have szτ40 := hXτ40.sz
        refine s_iload_n C dX9_slice_29 rfl ?_
        refine s_callVI (st := []) C (c_X7_pickSliced_1 l ad τ40 k hXτ40 (by omega)) cv_X9_279 y38 rfl rfl rfl ⟨by decide, by decide⟩ (Nat.le_of_ble_eq_true rfl) dX9_slice_30 ?_
        intro r42 τ43 h44
        have hXτ43 := h44.1
        have hRτ43 := h44.2.2
        have prτ43 := hXτ43.pr
        have szτ43 := hXτ43.sz
        exact s_iret C X dX9_slice_33 ⟨hXτ43, (Fr.tr (Fr.tr Fr.rf (Fr.mo h41.2 (by decide) (by decide))) (Fr.mo h44.2.1 (by decide) (by decide))), trivial⟩
      · have hnhc32 : c.toNatClampNeg = 2 := by unfold Int32.toNatClampNeg; omega
        refine s_aload_n C dX9_slice_24 rfl ?_
        refine s_iload_n C dX9_slice_25 rfl ?_
        refine s_callVR (st := []) C (c_X9_freshSurvey_2 l ad σ c hX (by omega)) cv_X9_263 y0 rfl rfl rfl ⟨by decide, by decide⟩ (Nat.le_of_ble_eq_true rfl) dX9_slice_26 ?_
        intro r45 τ46 h47
        obtain ⟨eh47, h47⟩ := h47; subst eh47
        have hXτ46 := h47.1
        have prτ46 := hXτ46.pr
        have szτ46 := hXτ46.sz
        refine s_iload_n C dX9_slice_29 rfl ?_
        refine s_callVI (st := []) C (c_X7_pickSliced_2 l ad τ46 k hXτ46 (by omega)) cv_X9_279 y39 rfl rfl rfl ⟨by decide, by decide⟩ (Nat.le_of_ble_eq_true rfl) dX9_slice_30 ?_
        intro r48 τ49 h50
        have hXτ49 := h50.1
        have hRτ49 := h50.2.2
        have prτ49 := hXτ49.pr
        have szτ49 := hXτ49.sz
        exact s_iret C X dX9_slice_33 ⟨hXτ49, (Fr.tr (Fr.tr Fr.rf (Fr.mo h47.2 (by decide) (by decide))) (Fr.mo h50.2.1 (by decide) (by decide))), trivial⟩
    · refine s_iload_n C dX9_slice_20 rfl ?_
      refine s_goto (tgt := 33) C dX9_slice_21 (by decide) ?_
      exact s_iret C X dX9_slice_33 ⟨hX, Fr.rf, trivial⟩
set_option maxRecDepth 100000 in
theorem c_X9_regular (l : Launch) (ad : Nat → Nat) (σ : Sg) (c : Int32) (hX : IX σ.1)  : Mt l yX9_regular cX9_regular 3 (some .int) 7 ad σ [.ref (ad 0), .int c] (oI (fun r τ => IX τ.1 ∧ Fr [62, 63, 64, 65, 49, 50, 51, 52, 53, 54, 55, 56, 57] [(61, 1), (61, 2), (61, 5), (37, 3), (37, 4), (37, 5), (37, 6), (37, 7), (38, 3), (38, 4), (38, 5), (38, 6), (38, 7), (39, 3), (39, 4), (39, 5), (39, 6), (39, 7)] σ τ ∧ True)) := by
  have hpr := hX.pr
  have htot := hX.tot
  have hms := hX.ms
  refine Mt_intro (by decide +kernel) (by simp [lg_sl, Value.category]) (fun E C X => ?_)
  show WP E ad 0 [some (.ref (ad 0)), some (.int c), none] [] σ
  refine s_aload_n C dX9_regular_0 rfl ?_
  refine s_iload_n C dX9_regular_1 rfl ?_
  refine s_iconst C dX9_regular_2 (by decide) (fun z1 tz1 => ?_)
  refine s_callVI (st := []) C (c_X9_lackOf l ad σ c z1 ) cv_X9_259 y0 rfl rfl rfl ⟨by decide, by decide⟩ (Nat.le_of_ble_eq_true rfl) dX9_regular_3 ?_
  intro r2 τ3 h4
  obtain ⟨eh4, h4⟩ := h4; replace eh4 := eh4.symm; subst eh4
  refine s_istore_n C dX9_regular_6 (by decide) (Nat.le_of_ble_eq_true rfl) rfl ?_
  show WP E ad 7 [some (.ref (ad 0)), some (.int c), some (.int r2)] [] σ
  refine s_iload_n C dX9_regular_7 rfl ?_
  refine s_if_eq (tgt := 13) C dX9_regular_8 (by decide) (fun q5 => ?_) (fun q5 => ?_)
  · obtain hc6 | hc6 | hc6 : c.toInt = 0 ∨ c.toInt = 1 ∨ c.toInt = 2 := by omega
    · have hnhc6 : c.toNatClampNeg = 0 := by unfold Int32.toNatClampNeg; omega
      refine s_aload_n C dX9_regular_13 rfl ?_
      refine s_iload_n C dX9_regular_14 rfl ?_
      refine s_callVR (st := []) C (c_X9_freshSurvey_0 l ad σ c hX (by omega)) cv_X9_263 y0 rfl rfl rfl ⟨by decide, by decide⟩ (Nat.le_of_ble_eq_true rfl) dX9_regular_15 ?_
      intro r7 τ8 h9
      obtain ⟨eh9, h9⟩ := h9; subst eh9
      have hXτ8 := h9.1
      have prτ8 := hXτ8.pr
      have szτ8 := hXτ8.sz
      refine s_callVI (st := []) C (c_X7_isExact_0 l ad τ8  hXτ8 ) cv_X9_282 y37 rfl rfl rfl ⟨by decide, by decide⟩ (Nat.le_of_ble_eq_true rfl) dX9_regular_18 ?_
      intro r10 τ11 h12
      have hXτ11 := h12.1
      have hRτ11 := h12.2.2
      have prτ11 := hXτ11.pr
      have szτ11 := hXτ11.sz
      refine s_if_eq (tgt := 28) C dX9_regular_21 (by decide) (fun q13 => ?_) (fun q13 => ?_)
      · refine s_iconst C dX9_regular_28 (by decide) (fun z14 tz14 => ?_)
        exact s_iret C X dX9_regular_29 ⟨hXτ11, (Fr.tr (Fr.tr Fr.rf (Fr.mo h9.2 (by decide) (by decide))) (Fr.mo h12.2.1 (by decide) (by decide))), trivial⟩
      · refine s_iconst C dX9_regular_24 (by decide) (fun z15 tz15 => ?_)
        refine s_goto (tgt := 29) C dX9_regular_25 (by decide) ?_
        exact s_iret C X dX9_regular_29 ⟨hXτ11, (Fr.tr (Fr.tr Fr.rf (Fr.mo h9.2 (by decide) (by decide))) (Fr.mo h12.2.1 (by decide) (by decide))), trivial⟩
    · have hnhc6 : c.toNatClampNeg = 1 := by unfold Int32.toNatClampNeg; omega
      refine s_aload_n C dX9_regular_13 rfl ?_
      refine s_iload_n C dX9_regular_14 rfl ?_
      refine s_callVR (st := []) C (c_X9_freshSurvey_1 l ad σ c hX (by omega)) cv_X9_263 y0 rfl rfl rfl ⟨by decide, by decide⟩ (Nat.le_of_ble_eq_true rfl) dX9_regular_15 ?_
      intro r16 τ17 h18
      obtain ⟨eh18, h18⟩ := h18; subst eh18
      have hXτ17 := h18.1
      have prτ17 := hXτ17.pr
      have szτ17 := hXτ17.sz
      refine s_callVI (st := []) C (c_X7_isExact_1 l ad τ17  hXτ17 ) cv_X9_282 y38 rfl rfl rfl ⟨by decide, by decide⟩ (Nat.le_of_ble_eq_true rfl) dX9_regular_18 ?_
      intro r19 τ20 h21
      have hXτ20 := h21.1
      have hRτ20 := h21.2.2
      have prτ20 := hXτ20.pr
      have szτ20 := hXτ20.sz
      refine s_if_eq (tgt := 28) C dX9_regular_21 (by decide) (fun q22 => ?_) (fun q22 => ?_)
      · refine s_iconst C dX9_regular_28 (by decide) (fun z23 tz23 => ?_)
        exact s_iret C X dX9_regular_29 ⟨hXτ20, (Fr.tr (Fr.tr Fr.rf (Fr.mo h18.2 (by decide) (by decide))) (Fr.mo h21.2.1 (by decide) (by decide))), trivial⟩
      · refine s_iconst C dX9_regular_24 (by decide) (fun z24 tz24 => ?_)
        refine s_goto (tgt := 29) C dX9_regular_25 (by decide) ?_
        exact s_iret C X dX9_regular_29 ⟨hXτ20, (Fr.tr (Fr.tr Fr.rf (Fr.mo h18.2 (by decide) (by decide))) (Fr.mo h21.2.1 (by decide) (by decide))), trivial⟩
    · have hnhc6 : c.toNatClampNeg = 2 := by unfold Int32.toNatClampNeg; omega
      refine s_aload_n C dX9_regular_13 rfl ?_
      refine s_iload_n C dX9_regular_14 rfl ?_
      refine s_callVR (st := []) C (c_X9_freshSurvey_2 l ad σ c hX (by omega)) cv_X9_263 y0 rfl rfl rfl ⟨by decide, by decide⟩ (Nat.le_of_ble_eq_true rfl) dX9_regular_15 ?_
      intro r25 τ26 h27
      obtain ⟨eh27, h27⟩ := h27; subst eh27
      have hXτ26 := h27.1
      have prτ26 := hXτ26.pr
      have szτ26 := hXτ26.sz
      refine s_callVI (st := []) C (c_X7_isExact_2 l ad τ26  hXτ26 ) cv_X9_282 y39 rfl rfl rfl ⟨by decide, by decide⟩ (Nat.le_of_ble_eq_true rfl) dX9_regular_18 ?_
      intro r28 τ29 h30
      have hXτ29 := h30.1
      have hRτ29 := h30.2.2
      have prτ29 := hXτ29.pr
      have szτ29 := hXτ29.sz
      refine s_if_eq (tgt := 28) C dX9_regular_21 (by decide) (fun q31 => ?_) (fun q31 => ?_)
      · refine s_iconst C dX9_regular_28 (by decide) (fun z32 tz32 => ?_)
        exact s_iret C X dX9_regular_29 ⟨hXτ29, (Fr.tr (Fr.tr Fr.rf (Fr.mo h27.2 (by decide) (by decide))) (Fr.mo h30.2.1 (by decide) (by decide))), trivial⟩
      · refine s_iconst C dX9_regular_24 (by decide) (fun z33 tz33 => ?_)
        refine s_goto (tgt := 29) C dX9_regular_25 (by decide) ?_
        exact s_iret C X dX9_regular_29 ⟨hXτ29, (Fr.tr (Fr.tr Fr.rf (Fr.mo h27.2 (by decide) (by decide))) (Fr.mo h30.2.1 (by decide) (by decide))), trivial⟩
  · refine s_iload_n C dX9_regular_11 rfl ?_
    exact s_iret C X dX9_regular_12 ⟨hX, Fr.rf, trivial⟩
set_option maxRecDepth 100000 in
theorem c_X9_least (l : Launch) (ad : Nat → Nat) (σ : Sg) (c : Int32) (p : Int32) (k : Int32) (hX : IX σ.1)  : Mt l yX9_least cX9_least 5 (some .int) 7 ad σ [.ref (ad 0), .int c, .int p, .int k] (oI (fun r τ => IX τ.1 ∧ Fr [62, 63, 64, 65, 49, 50, 51, 52, 53, 54, 55, 56, 57] [(61, 1), (61, 2), (61, 5), (37, 3), (37, 4), (37, 5), (37, 6), (37, 7), (38, 3), (38, 4), (38, 5), (38, 6), (38, 7), (39, 3), (39, 4), (39, 5), (39, 6), (39, 7)] σ τ ∧ True)) := by
  have hpr := hX.pr
  have htot := hX.tot
  have hms := hX.ms
  refine Mt_intro (by decide +kernel) (by simp [lg_sl, Value.category]) (fun E C X => ?_)
  show WP E ad 0 [some (.ref (ad 0)), some (.int c), some (.int p), some (.int k), none] [] σ
  refine s_aload_n C dX9_least_0 rfl ?_
  refine s_iload_n C dX9_least_1 rfl ?_
  refine s_aload_n C dX9_least_2 rfl ?_
  refine s_getr (k := 0) (j := 1) C y0 fw_X9_12 rfl dX9_least_3 ?_
  refine s_iload_n C dX9_least_6 rfl ?_
  refine s_iload_n C dX9_least_7 rfl ?_
  refine s_callVI (st := [.int c, .ref (ad 0)]) C (c_X5_hasEvent l ad σ p k (by omega)) cv_X9_144 y1 rfl rfl rfl ⟨by decide, by decide⟩ (Nat.le_of_ble_eq_true rfl) dX9_least_8 ?_
  intro r1 τ2 h3
  obtain ⟨eh3, h3⟩ := h3; replace eh3 := eh3.symm; subst eh3
  have bv5 := hX.ev p.toNatClampNeg
  refine s_callVI (st := []) C (c_X9_lackOf l ad σ c r1 ) cv_X9_259 y0 rfl rfl rfl ⟨by decide, by decide⟩ (Nat.le_of_ble_eq_true rfl) dX9_least_11 ?_
  intro r4 τ5 h6
  obtain ⟨eh6, h6⟩ := h6; replace eh6 := eh6.symm; subst eh6
  refine s_istore C dX9_least_14 (by decide) (Nat.le_of_ble_eq_true rfl) rfl ?_
  show WP E ad 16 [some (.ref (ad 0)), some (.int c), some (.int p), some (.int k), some (.int r4)] [] σ
  refine s_iload C dX9_least_16 rfl ?_
  refine s_if_eq (tgt := 26) C dX9_least_18 (by decide) (fun q7 => ?_) (fun q7 => ?_)
  · obtain hc8 | hc8 | hc8 : c.toInt = 0 ∨ c.toInt = 1 ∨ c.toInt = 2 := by omega
    · have hnhc8 : c.toNatClampNeg = 0 := by unfold Int32.toNatClampNeg; omega
      refine s_aload_n C dX9_least_26 rfl ?_
      refine s_iload_n C dX9_least_27 rfl ?_
      refine s_callVR (st := []) C (c_X9_freshSurvey_0 l ad σ c hX (by omega)) cv_X9_263 y0 rfl rfl rfl ⟨by decide, by decide⟩ (Nat.le_of_ble_eq_true rfl) dX9_least_28 ?_
      intro r9 τ10 h11
      obtain ⟨eh11, h11⟩ := h11; subst eh11
      have hXτ10 := h11.1
      have prτ10 := hXτ10.pr
      have szτ10 := hXτ10.sz
      refine s_iload_n C dX9_least_31 rfl ?_
      refine s_iload_n C dX9_least_32 rfl ?_
      refine s_callVI (st := []) C (c_X7_leastWith_0 l ad τ10 p k hXτ10 (by omega) (by omega)) cv_X9_285 y37 rfl rfl rfl ⟨by decide, by decide⟩ (Nat.le_of_ble_eq_true rfl) dX9_least_33 ?_
      intro r12 τ13 h14
      have hXτ13 := h14.1
      have hRτ13 := h14.2.2
      have prτ13 := hXτ13.pr
      have szτ13 := hXτ13.sz
      exact s_iret C X dX9_least_36 ⟨hXτ13, (Fr.tr (Fr.tr Fr.rf (Fr.mo h11.2 (by decide) (by decide))) (Fr.mo h14.2.1 (by decide) (by decide))), trivial⟩
    · have hnhc8 : c.toNatClampNeg = 1 := by unfold Int32.toNatClampNeg; omega
      refine s_aload_n C dX9_least_26 rfl ?_
      refine s_iload_n C dX9_least_27 rfl ?_
      refine s_callVR (st := []) C (c_X9_freshSurvey_1 l ad σ c hX (by omega)) cv_X9_263 y0 rfl rfl rfl ⟨by decide, by decide⟩ (Nat.le_of_ble_eq_true rfl) dX9_least_28 ?_
      intro r15 τ16 h17
      obtain ⟨eh17, h17⟩ := h17; subst eh17
      have hXτ16 := h17.1
      have prτ16 := hXτ16.pr
      have szτ16 := hXτ16.sz
      refine s_iload_n C dX9_least_31 rfl ?_
      refine s_iload_n C dX9_least_32 rfl ?_
      refine s_callVI (st := []) C (c_X7_leastWith_1 l ad τ16 p k hXτ16 (by omega) (by omega)) cv_X9_285 y38 rfl rfl rfl ⟨by decide, by decide⟩ (Nat.le_of_ble_eq_true rfl) dX9_least_33 ?_
      intro r18 τ19 h20
      have hXτ19 := h20.1
      have hRτ19 := h20.2.2
      have prτ19 := hXτ19.pr
      have szτ19 := hXτ19.sz
      exact s_iret C X dX9_least_36 ⟨hXτ19, (Fr.tr (Fr.tr Fr.rf (Fr.mo h17.2 (by decide) (by decide))) (Fr.mo h20.2.1 (by decide) (by decide))), trivial⟩
    · have hnhc8 : c.toNatClampNeg = 2 := by unfold Int32.toNatClampNeg; omega
      refine s_aload_n C dX9_least_26 rfl ?_
      refine s_iload_n C dX9_least_27 rfl ?_
      refine s_callVR (st := []) C (c_X9_freshSurvey_2 l ad σ c hX (by omega)) cv_X9_263 y0 rfl rfl rfl ⟨by decide, by decide⟩ (Nat.le_of_ble_eq_true rfl) dX9_least_28 ?_
      intro r21 τ22 h23
      obtain ⟨eh23, h23⟩ := h23; subst eh23
      have hXτ22 := h23.1
      have prτ22 := hXτ22.pr
      have szτ22 := hXτ22.sz
      refine s_iload_n C dX9_least_31 rfl ?_
      refine s_iload_n C dX9_least_32 rfl ?_
      refine s_callVI (st := []) C (c_X7_leastWith_2 l ad τ22 p k hXτ22 (by omega) (by omega)) cv_X9_285 y39 rfl rfl rfl ⟨by decide, by decide⟩ (Nat.le_of_ble_eq_true rfl) dX9_least_33 ?_
      intro r24 τ25 h26
      have hXτ25 := h26.1
      have hRτ25 := h26.2.2
      have prτ25 := hXτ25.pr
      have szτ25 := hXτ25.sz
      exact s_iret C X dX9_least_36 ⟨hXτ25, (Fr.tr (Fr.tr Fr.rf (Fr.mo h23.2 (by decide) (by decide))) (Fr.mo h26.2.1 (by decide) (by decide))), trivial⟩
  · refine s_iload C dX9_least_21 rfl ?_
    refine s_goto (tgt := 36) C dX9_least_23 (by decide) ?_
    exact s_iret C X dX9_least_36 ⟨hX, Fr.rf, trivial⟩
set_option maxRecDepth 100000 in
theorem c_X9_film (l : Launch) (ad : Nat → Nat) (σ : Sg) (a : Int32) (c : Int32) (hX : IX σ.1)  : Mt l yX9_film cX9_film 4 (some .int) 7 ad σ [.ref (ad 0), .int a, .int c] (oI (fun r τ => IX τ.1 ∧ Fr [62, 63, 64, 65, 49, 50, 51, 52, 53, 54, 55, 56, 57, 58, 59, 60] [(61, 1), (61, 2), (61, 5), (37, 3), (37, 4), (37, 5), (37, 6), (37, 7), (38, 3), (38, 4), (38, 5), (38, 6), (38, 7), (39, 3), (39, 4), (39, 5), (39, 6), (39, 7), (40, 0), (41, 0), (42, 0)] σ τ ∧ True)) := by
  have hpr := hX.pr
  have htot := hX.tot
  have hms := hX.ms
  refine Mt_intro (by decide +kernel) (by simp [lg_sl, Value.category]) (fun E C X => ?_)
  show WP E ad 0 [some (.ref (ad 0)), some (.int a), some (.int c), none] [] σ
  refine s_aload_n C dX9_film_0 rfl ?_
  refine s_iload_n C dX9_film_1 rfl ?_
  refine s_iload_n C dX9_film_2 rfl ?_
  refine s_callSI (st := [.int c, .ref (ad 0)]) C (c_X9_isList l ad σ a ) cv_X9_303 rfl rfl ⟨by decide, by decide⟩ (Nat.le_of_ble_eq_true rfl) dX9_film_3 ?_
  intro r1 τ2 h3
  obtain ⟨eh3, h3⟩ := h3; replace eh3 := eh3.symm; subst eh3
  refine s_callVI (st := []) C (c_X9_lackOf l ad σ c r1 ) cv_X9_259 y0 rfl rfl rfl ⟨by decide, by decide⟩ (Nat.le_of_ble_eq_true rfl) dX9_film_6 ?_
  intro r4 τ5 h6
  obtain ⟨eh6, h6⟩ := h6; replace eh6 := eh6.symm; subst eh6
  refine s_istore_n C dX9_film_9 (by decide) (Nat.le_of_ble_eq_true rfl) rfl ?_
  show WP E ad 10 [some (.ref (ad 0)), some (.int a), some (.int c), some (.int r4)] [] σ
  refine s_iload_n C dX9_film_10 rfl ?_
  refine s_if_eq (tgt := 18) C dX9_film_11 (by decide) (fun q7 => ?_) (fun q7 => ?_)
  · obtain hc8 | hc8 | hc8 : c.toInt = 0 ∨ c.toInt = 1 ∨ c.toInt = 2 := by omega
    · have hnhc8 : c.toNatClampNeg = 0 := by unfold Int32.toNatClampNeg; omega
      refine s_aload_n C dX9_film_18 rfl ?_
      obtain hc9 | hc9 | hc9 : a.toInt = 0 ∨ a.toInt = 1 ∨ a.toInt = 2 := by omega
      · have hnhc9 : a.toNatClampNeg = 0 := by unfold Int32.toNatClampNeg; omega
        refine s_iload_n C dX9_film_19 rfl ?_
        refine s_callVR (st := []) C (c_X9_freshSurvey_0 l ad σ c hX (by omega)) cv_X9_263 y0 rfl rfl rfl ⟨by decide, by decide⟩ (Nat.le_of_ble_eq_true rfl) dX9_film_20 ?_
        intro r10 τ11 h12
        obtain ⟨eh12, h12⟩ := h12; subst eh12
        have hXτ11 := h12.1
        have prτ11 := hXτ11.pr
        have szτ11 := hXτ11.sz
        refine s_aload_n C dX9_film_23 rfl ?_
        refine s_getr (k := 5) (j := 30) C y0 fw_X9_38 rfl dX9_film_24 ?_
        refine s_iload_n C dX9_film_27 rfl ?_
        refine s_aald (kd := 2) C y30 ⟨_, rfl⟩ (by omega) dX9_film_28 ?_
        rw [show a.toNatClampNeg = 0 by unfold Int32.toNatClampNeg; omega]
        refine s_callVI (st := []) C (c_X7_copyMetTo_0_0 l ad τ11  hXτ11 ) cv_X9_319 y37 rfl rfl rfl ⟨by decide, by decide⟩ (Nat.le_of_ble_eq_true rfl) dX9_film_29 ?_
        intro r13 τ14 h15
        have hXτ14 := h15.1
        have hRτ14 := h15.2.2
        have prτ14 := hXτ14.pr
        have szτ14 := hXτ14.sz
        exact s_iret C X dX9_film_32 ⟨hXτ14, (Fr.tr (Fr.tr Fr.rf (Fr.mo h12.2 (by decide) (by decide))) (Fr.mo h15.2.1 (by decide) (by decide))), trivial⟩
      · have hnhc9 : a.toNatClampNeg = 1 := by unfold Int32.toNatClampNeg; omega
        refine s_iload_n C dX9_film_19 rfl ?_
        refine s_callVR (st := []) C (c_X9_freshSurvey_0 l ad σ c hX (by omega)) cv_X9_263 y0 rfl rfl rfl ⟨by decide, by decide⟩ (Nat.le_of_ble_eq_true rfl) dX9_film_20 ?_
        intro r16 τ17 h18
        obtain ⟨eh18, h18⟩ := h18; subst eh18
        have hXτ17 := h18.1
        have prτ17 := hXτ17.pr
        have szτ17 := hXτ17.sz
        refine s_aload_n C dX9_film_23 rfl ?_
        refine s_getr (k := 5) (j := 30) C y0 fw_X9_38 rfl dX9_film_24 ?_
        refine s_iload_n C dX9_film_27 rfl ?_
        refine s_aald (kd := 2) C y30 ⟨_, rfl⟩ (by omega) dX9_film_28 ?_
        rw [show a.toNatClampNeg = 1 by unfold Int32.toNatClampNeg; omega]
        refine s_callVI (st := []) C (c_X7_copyMetTo_0_1 l ad τ17  hXτ17 ) cv_X9_319 y37 rfl rfl rfl ⟨by decide, by decide⟩ (Nat.le_of_ble_eq_true rfl) dX9_film_29 ?_
        intro r19 τ20 h21
        have hXτ20 := h21.1
        have hRτ20 := h21.2.2
        have prτ20 := hXτ20.pr
        have szτ20 := hXτ20.sz
        exact s_iret C X dX9_film_32 ⟨hXτ20, (Fr.tr (Fr.tr Fr.rf (Fr.mo h18.2 (by decide) (by decide))) (Fr.mo h21.2.1 (by decide) (by decide))), trivial⟩
      · have hnhc9 : a.toNatClampNeg = 2 := by unfold Int32.toNatClampNeg; omega
        refine s_iload_n C dX9_film_19 rfl ?_
        refine s_callVR (st := []) C (c_X9_freshSurvey_0 l ad σ c hX (by omega)) cv_X9_263 y0 rfl rfl rfl ⟨by decide, by decide⟩ (Nat.le_of_ble_eq_true rfl) dX9_film_20 ?_
        intro r22 τ23 h24
        obtain ⟨eh24, h24⟩ := h24; subst eh24
        have hXτ23 := h24.1
        have prτ23 := hXτ23.pr
        have szτ23 := hXτ23.sz
        refine s_aload_n C dX9_film_23 rfl ?_
        refine s_getr (k := 5) (j := 30) C y0 fw_X9_38 rfl dX9_film_24 ?_
        refine s_iload_n C dX9_film_27 rfl ?_
        refine s_aald (kd := 2) C y30 ⟨_, rfl⟩ (by omega) dX9_film_28 ?_
        rw [show a.toNatClampNeg = 2 by unfold Int32.toNatClampNeg; omega]
        refine s_callVI (st := []) C (c_X7_copyMetTo_0_2 l ad τ23  hXτ23 ) cv_X9_319 y37 rfl rfl rfl ⟨by decide, by decide⟩ (Nat.le_of_ble_eq_true rfl) dX9_film_29 ?_
        intro r25 τ26 h27
        have hXτ26 := h27.1
        have hRτ26 := h27.2.2
        have prτ26 := hXτ26.pr
        have szτ26 := hXτ26.sz
        exact s_iret C X dX9_film_32 ⟨hXτ26, (Fr.tr (Fr.tr Fr.rf (Fr.mo h24.2 (by decide) (by decide))) (Fr.mo h27.2.1 (by decide) (by decide))), trivial⟩
    · have hnhc8 : c.toNatClampNeg = 1 := by unfold Int32.toNatClampNeg; omega
      refine s_aload_n C dX9_film_18 rfl ?_
      obtain hc28 | hc28 | hc28 : a.toInt = 0 ∨ a.toInt = 1 ∨ a.toInt = 2 := by omega
      · have hnhc28 : a.toNatClampNeg = 0 := by unfold Int32.toNatClampNeg; omega
        refine s_iload_n C dX9_film_19 rfl ?_
        refine s_callVR (st := []) C (c_X9_freshSurvey_1 l ad σ c hX (by omega)) cv_X9_263 y0 rfl rfl rfl ⟨by decide, by decide⟩ (Nat.le_of_ble_eq_true rfl) dX9_film_20 ?_
        intro r29 τ30 h31
        obtain ⟨eh31, h31⟩ := h31; subst eh31
        have hXτ30 := h31.1
        have prτ30 := hXτ30.pr
        have szτ30 := hXτ30.sz
        refine s_aload_n C dX9_film_23 rfl ?_
        refine s_getr (k := 5) (j := 30) C y0 fw_X9_38 rfl dX9_film_24 ?_
        refine s_iload_n C dX9_film_27 rfl ?_
        refine s_aald (kd := 2) C y30 ⟨_, rfl⟩ (by omega) dX9_film_28 ?_
        rw [show a.toNatClampNeg = 0 by unfold Int32.toNatClampNeg; omega]
        refine s_callVI (st := []) C (c_X7_copyMetTo_1_0 l ad τ30  hXτ30 ) cv_X9_319 y38 rfl rfl rfl ⟨by decide, by decide⟩ (Nat.le_of_ble_eq_true rfl) dX9_film_29 ?_
        intro r32 τ33 h34
        have hXτ33 := h34.1
        have hRτ33 := h34.2.2
        have prτ33 := hXτ33.pr
        have szτ33 := hXτ33.sz
        exact s_iret C X dX9_film_32 ⟨hXτ33, (Fr.tr (Fr.tr Fr.rf (Fr.mo h31.2 (by decide) (by decide))) (Fr.mo h34.2.1 (by decide) (by decide))), trivial⟩
      · have hnhc28 : a.toNatClampNeg = 1 := by unfold Int32.toNatClampNeg; omega
        refine s_iload_n C dX9_film_19 rfl ?_
        refine s_callVR (st := []) C (c_X9_freshSurvey_1 l ad σ c hX (by omega)) cv_X9_263 y0 rfl rfl rfl ⟨by decide, by decide⟩ (Nat.le_of_ble_eq_true rfl) dX9_film_20 ?_
        intro r35 τ36 h37
        obtain ⟨eh37, h37⟩ := h37; subst eh37
        have hXτ36 := h37.1
        have prτ36 := hXτ36.pr
        have szτ36 := hXτ36.sz
        refine s_aload_n C dX9_film_23 rfl ?_
        refine s_getr (k := 5) (j := 30) C y0 fw_X9_38 rfl dX9_film_24 ?_
        refine s_iload_n C dX9_film_27 rfl ?_
        refine s_aald (kd := 2) C y30 ⟨_, rfl⟩ (by omega) dX9_film_28 ?_
        rw [show a.toNatClampNeg = 1 by unfold Int32.toNatClampNeg; omega]
        refine s_callVI (st := []) C (c_X7_copyMetTo_1_1 l ad τ36  hXτ36 ) cv_X9_319 y38 rfl rfl rfl ⟨by decide, by decide⟩ (Nat.le_of_ble_eq_true rfl) dX9_film_29 ?_
        intro r38 τ39 h40
        have hXτ39 := h40.1
        have hRτ39 := h40.2.2
        have prτ39 := hXτ39.pr
        have szτ39 := hXτ39.sz
        exact s_iret C X dX9_film_32 ⟨hXτ39, (Fr.tr (Fr.tr Fr.rf (Fr.mo h37.2 (by decide) (by decide))) (Fr.mo h40.2.1 (by decide) (by decide))), trivial⟩
      · have hnhc28 : a.toNatClampNeg = 2 := by unfold Int32.toNatClampNeg; omega
        refine s_iload_n C dX9_film_19 rfl ?_
        refine s_callVR (st := []) C (c_X9_freshSurvey_1 l ad σ c hX (by omega)) cv_X9_263 y0 rfl rfl rfl ⟨by decide, by decide⟩ (Nat.le_of_ble_eq_true rfl) dX9_film_20 ?_
        intro r41 τ42 h43
        obtain ⟨eh43, h43⟩ := h43; subst eh43
        have hXτ42 := h43.1
        have prτ42 := hXτ42.pr
        have szτ42 := hXτ42.sz
        refine s_aload_n C dX9_film_23 rfl ?_
        refine s_getr (k := 5) (j := 30) C y0 fw_X9_38 rfl dX9_film_24 ?_
        refine s_iload_n C dX9_film_27 rfl ?_
        refine s_aald (kd := 2) C y30 ⟨_, rfl⟩ (by omega) dX9_film_28 ?_
        rw [show a.toNatClampNeg = 2 by unfold Int32.toNatClampNeg; omega]
        refine s_callVI (st := []) C (c_X7_copyMetTo_1_2 l ad τ42  hXτ42 ) cv_X9_319 y38 rfl rfl rfl ⟨by decide, by decide⟩ (Nat.le_of_ble_eq_true rfl) dX9_film_29 ?_
        intro r44 τ45 h46
        have hXτ45 := h46.1
        have hRτ45 := h46.2.2
        have prτ45 := hXτ45.pr
        have szτ45 := hXτ45.sz
        exact s_iret C X dX9_film_32 ⟨hXτ45, (Fr.tr (Fr.tr Fr.rf (Fr.mo h43.2 (by decide) (by decide))) (Fr.mo h46.2.1 (by decide) (by decide))), trivial⟩
    · have hnhc8 : c.toNatClampNeg = 2 := by unfold Int32.toNatClampNeg; omega
      refine s_aload_n C dX9_film_18 rfl ?_
      obtain hc47 | hc47 | hc47 : a.toInt = 0 ∨ a.toInt = 1 ∨ a.toInt = 2 := by omega
      · have hnhc47 : a.toNatClampNeg = 0 := by unfold Int32.toNatClampNeg; omega
        refine s_iload_n C dX9_film_19 rfl ?_
        refine s_callVR (st := []) C (c_X9_freshSurvey_2 l ad σ c hX (by omega)) cv_X9_263 y0 rfl rfl rfl ⟨by decide, by decide⟩ (Nat.le_of_ble_eq_true rfl) dX9_film_20 ?_
        intro r48 τ49 h50
        obtain ⟨eh50, h50⟩ := h50; subst eh50
        have hXτ49 := h50.1
        have prτ49 := hXτ49.pr
        have szτ49 := hXτ49.sz
        refine s_aload_n C dX9_film_23 rfl ?_
        refine s_getr (k := 5) (j := 30) C y0 fw_X9_38 rfl dX9_film_24 ?_
        refine s_iload_n C dX9_film_27 rfl ?_
        refine s_aald (kd := 2) C y30 ⟨_, rfl⟩ (by omega) dX9_film_28 ?_
        rw [show a.toNatClampNeg = 0 by unfold Int32.toNatClampNeg; omega]
        refine s_callVI (st := []) C (c_X7_copyMetTo_2_0 l ad τ49  hXτ49 ) cv_X9_319 y39 rfl rfl rfl ⟨by decide, by decide⟩ (Nat.le_of_ble_eq_true rfl) dX9_film_29 ?_
        intro r51 τ52 h53
        have hXτ52 := h53.1
        have hRτ52 := h53.2.2
        have prτ52 := hXτ52.pr
        have szτ52 := hXτ52.sz
        exact s_iret C X dX9_film_32 ⟨hXτ52, (Fr.tr (Fr.tr Fr.rf (Fr.mo h50.2 (by decide) (by decide))) (Fr.mo h53.2.1 (by decide) (by decide))), trivial⟩
      · have hnhc47 : a.toNatClampNeg = 1 := by unfold Int32.toNatClampNeg; omega
        refine s_iload_n C dX9_film_19 rfl ?_
        refine s_callVR (st := []) C (c_X9_freshSurvey_2 l ad σ c hX (by omega)) cv_X9_263 y0 rfl rfl rfl ⟨by decide, by decide⟩ (Nat.le_of_ble_eq_true rfl) dX9_film_20 ?_
        intro r54 τ55 h56
        obtain ⟨eh56, h56⟩ := h56; subst eh56
        have hXτ55 := h56.1
        have prτ55 := hXτ55.pr
        have szτ55 := hXτ55.sz
        refine s_aload_n C dX9_film_23 rfl ?_
        refine s_getr (k := 5) (j := 30) C y0 fw_X9_38 rfl dX9_film_24 ?_
        refine s_iload_n C dX9_film_27 rfl ?_
        refine s_aald (kd := 2) C y30 ⟨_, rfl⟩ (by omega) dX9_film_28 ?_
        rw [show a.toNatClampNeg = 1 by unfold Int32.toNatClampNeg; omega]
        refine s_callVI (st := []) C (c_X7_copyMetTo_2_1 l ad τ55  hXτ55 ) cv_X9_319 y39 rfl rfl rfl ⟨by decide, by decide⟩ (Nat.le_of_ble_eq_true rfl) dX9_film_29 ?_
        intro r57 τ58 h59
        have hXτ58 := h59.1
        have hRτ58 := h59.2.2
        have prτ58 := hXτ58.pr
        have szτ58 := hXτ58.sz
        exact s_iret C X dX9_film_32 ⟨hXτ58, (Fr.tr (Fr.tr Fr.rf (Fr.mo h56.2 (by decide) (by decide))) (Fr.mo h59.2.1 (by decide) (by decide))), trivial⟩
      · have hnhc47 : a.toNatClampNeg = 2 := by unfold Int32.toNatClampNeg; omega
        refine s_iload_n C dX9_film_19 rfl ?_
        refine s_callVR (st := []) C (c_X9_freshSurvey_2 l ad σ c hX (by omega)) cv_X9_263 y0 rfl rfl rfl ⟨by decide, by decide⟩ (Nat.le_of_ble_eq_true rfl) dX9_film_20 ?_
        intro r60 τ61 h62
        obtain ⟨eh62, h62⟩ := h62; subst eh62
        have hXτ61 := h62.1
        have prτ61 := hXτ61.pr
        have szτ61 := hXτ61.sz
        refine s_aload_n C dX9_film_23 rfl ?_
        refine s_getr (k := 5) (j := 30) C y0 fw_X9_38 rfl dX9_film_24 ?_
        refine s_iload_n C dX9_film_27 rfl ?_
        refine s_aald (kd := 2) C y30 ⟨_, rfl⟩ (by omega) dX9_film_28 ?_
        rw [show a.toNatClampNeg = 2 by unfold Int32.toNatClampNeg; omega]
        refine s_callVI (st := []) C (c_X7_copyMetTo_2_2 l ad τ61  hXτ61 ) cv_X9_319 y39 rfl rfl rfl ⟨by decide, by decide⟩ (Nat.le_of_ble_eq_true rfl) dX9_film_29 ?_
        intro r63 τ64 h65
        have hXτ64 := h65.1
        have hRτ64 := h65.2.2
        have prτ64 := hXτ64.pr
        have szτ64 := hXτ64.sz
        exact s_iret C X dX9_film_32 ⟨hXτ64, (Fr.tr (Fr.tr Fr.rf (Fr.mo h62.2 (by decide) (by decide))) (Fr.mo h65.2.1 (by decide) (by decide))), trivial⟩
  · refine s_iload_n C dX9_film_14 rfl ?_
    refine s_goto (tgt := 32) C dX9_film_15 (by decide) ?_
    exact s_iret C X dX9_film_32 ⟨hX, Fr.rf, trivial⟩
set_option maxRecDepth 100000 in
theorem c_X9_judge (l : Launch) (ad : Nat → Nat) (σ : Sg) (a : Int32) (c : Int32) (hX : IX σ.1)  : Mt l yX9_judge cX9_judge 3 (some .int) 7 ad σ [.ref (ad 0), .int a, .int c] (oI (fun r τ => IX τ.1 ∧ Fr [62, 63, 64, 65, 49, 50, 51, 52, 53, 54, 55, 56, 57] [(61, 1), (61, 2), (61, 5), (37, 3), (37, 4), (37, 5), (37, 6), (37, 7), (38, 3), (38, 4), (38, 5), (38, 6), (38, 7), (39, 3), (39, 4), (39, 5), (39, 6), (39, 7)] σ τ ∧ True)) := by
  have hpr := hX.pr
  have htot := hX.tot
  have hms := hX.ms
  refine Mt_intro (by decide +kernel) (by simp [lg_sl, Value.category]) (fun E C X => ?_)
  show WP E ad 0 [some (.ref (ad 0)), some (.int a), some (.int c)] [] σ
  refine s_iload_n C dX9_judge_0 rfl ?_
  refine s_callSI (st := []) C (c_X9_isList l ad σ a ) cv_X9_303 rfl rfl ⟨by decide, by decide⟩ (Nat.le_of_ble_eq_true rfl) dX9_judge_1 ?_
  intro r1 τ2 h3
  obtain ⟨eh3, h3⟩ := h3; replace eh3 := eh3.symm; subst eh3
  refine s_if_eq (tgt := 14) C dX9_judge_4 (by decide) (fun q4 => ?_) (fun q4 => ?_)
  · refine s_iconst C dX9_judge_14 (by decide) (fun z5 tz5 => ?_)
    exact s_iret C X dX9_judge_15 ⟨hX, Fr.rf, trivial⟩
  · refine s_iload_n C dX9_judge_7 rfl ?_
    refine s_callSI (st := []) C (c_X9_isCondition l ad σ c ) cv_X9_233 rfl rfl ⟨by decide, by decide⟩ (Nat.le_of_ble_eq_true rfl) dX9_judge_8 ?_
    intro r6 τ7 h8
    obtain ⟨eh8, h8⟩ := h8; replace eh8 := eh8.symm; subst eh8
    refine s_if_ne (tgt := 16) C dX9_judge_11 (by decide) (fun q9 => ?_) (fun q9 => ?_)
    · obtain hc10 | hc10 | hc10 : a.toInt = 0 ∨ a.toInt = 1 ∨ a.toInt = 2 := by omega
      · have hnhc10 : a.toNatClampNeg = 0 := by unfold Int32.toNatClampNeg; omega
        refine s_aload_n C dX9_judge_16 rfl ?_
        refine s_getr (k := 5) (j := 30) C y0 fw_X9_38 rfl dX9_judge_17 ?_
        refine s_iload_n C dX9_judge_20 rfl ?_
        refine s_aald (kd := 2) C y30 ⟨_, rfl⟩ (by omega) dX9_judge_21 ?_
        rw [show a.toNatClampNeg = 0 by unfold Int32.toNatClampNeg; omega]
        refine s_callVI (st := []) C (c_X3_isMissing_0 l ad σ  ) cv_X9_309 y40 rfl rfl rfl ⟨by decide, by decide⟩ (Nat.le_of_ble_eq_true rfl) dX9_judge_22 ?_
        intro r11 τ12 h13
        obtain ⟨eh13, h13⟩ := h13; replace eh13 := eh13.symm; subst eh13
        refine s_if_eq (tgt := 31) C dX9_judge_25 (by decide) (fun q14 => ?_) (fun q14 => ?_)
        · obtain hc15 | hc15 | hc15 : c.toInt = 0 ∨ c.toInt = 1 ∨ c.toInt = 2 := by omega
          · have hnhc15 : c.toNatClampNeg = 0 := by unfold Int32.toNatClampNeg; omega
            refine s_aload_n C dX9_judge_31 rfl ?_
            refine s_getr (k := 2) (j := 27) C y0 fw_X9_23 rfl dX9_judge_32 ?_
            refine s_iload_n C dX9_judge_35 rfl ?_
            refine s_aald (kd := 0) C y27 ⟨_, rfl⟩ (by omega) dX9_judge_36 ?_
            rw [show c.toNatClampNeg = 0 by unfold Int32.toNatClampNeg; omega]
            refine s_get (k := 0) (x := (σ.1 31 0)) C y31 fw_X9_91 rfl rfl dX9_judge_37 ?_
            refine s_if_ne (tgt := 46) C dX9_judge_40 (by decide) (fun q16 => ?_) (fun q16 => ?_)
            · refine s_aload_n C dX9_judge_46 rfl ?_
              refine s_iload_n C dX9_judge_47 rfl ?_
              refine s_callVR (st := []) C (c_X9_freshSurvey_0 l ad σ c hX (by omega)) cv_X9_263 y0 rfl rfl rfl ⟨by decide, by decide⟩ (Nat.le_of_ble_eq_true rfl) dX9_judge_48 ?_
              intro r17 τ18 h19
              obtain ⟨eh19, h19⟩ := h19; subst eh19
              have hXτ18 := h19.1
              have prτ18 := hXτ18.pr
              have szτ18 := hXτ18.sz
              refine s_aload_n C dX9_judge_51 rfl ?_
              refine s_getr (k := 5) (j := 30) C y0 fw_X9_38 rfl dX9_judge_52 ?_
              refine s_iload_n C dX9_judge_55 rfl ?_
              refine s_aald (kd := 2) C y30 ⟨_, rfl⟩ (by omega) dX9_judge_56 ?_
              rw [show a.toNatClampNeg = 0 by unfold Int32.toNatClampNeg; omega]
              refine s_callVI (st := []) C (c_X7_judgeOf_0_0 l ad τ18 hXτ18) cv_X9_323 y37 rfl rfl rfl ⟨by decide, by decide⟩ (Nat.le_of_ble_eq_true rfl) dX9_judge_57 ?_
              intro r20 τ21 h22
              obtain ⟨eh22, h22⟩ := h22; replace eh22 := eh22.symm; subst eh22
              exact s_iret C X dX9_judge_60 ⟨hXτ18, (Fr.tr Fr.rf (Fr.mo h19.2 (by decide) (by decide))), trivial⟩
            · refine s_bipush C dX9_judge_43 (by decide) (fun z23 tz23 => ?_)
              exact s_iret C X dX9_judge_45 ⟨hX, Fr.rf, trivial⟩
          · have hnhc15 : c.toNatClampNeg = 1 := by unfold Int32.toNatClampNeg; omega
            refine s_aload_n C dX9_judge_31 rfl ?_
            refine s_getr (k := 2) (j := 27) C y0 fw_X9_23 rfl dX9_judge_32 ?_
            refine s_iload_n C dX9_judge_35 rfl ?_
            refine s_aald (kd := 0) C y27 ⟨_, rfl⟩ (by omega) dX9_judge_36 ?_
            rw [show c.toNatClampNeg = 1 by unfold Int32.toNatClampNeg; omega]
            refine s_get (k := 0) (x := (σ.1 32 0)) C y32 fw_X9_91 rfl rfl dX9_judge_37 ?_
            refine s_if_ne (tgt := 46) C dX9_judge_40 (by decide) (fun q24 => ?_) (fun q24 => ?_)
            · refine s_aload_n C dX9_judge_46 rfl ?_
              refine s_iload_n C dX9_judge_47 rfl ?_
              refine s_callVR (st := []) C (c_X9_freshSurvey_1 l ad σ c hX (by omega)) cv_X9_263 y0 rfl rfl rfl ⟨by decide, by decide⟩ (Nat.le_of_ble_eq_true rfl) dX9_judge_48 ?_
              intro r25 τ26 h27
              obtain ⟨eh27, h27⟩ := h27; subst eh27
              have hXτ26 := h27.1
              have prτ26 := hXτ26.pr
              have szτ26 := hXτ26.sz
              refine s_aload_n C dX9_judge_51 rfl ?_
              refine s_getr (k := 5) (j := 30) C y0 fw_X9_38 rfl dX9_judge_52 ?_
              refine s_iload_n C dX9_judge_55 rfl ?_
              refine s_aald (kd := 2) C y30 ⟨_, rfl⟩ (by omega) dX9_judge_56 ?_
              rw [show a.toNatClampNeg = 0 by unfold Int32.toNatClampNeg; omega]
              refine s_callVI (st := []) C (c_X7_judgeOf_1_0 l ad τ26 hXτ26) cv_X9_323 y38 rfl rfl rfl ⟨by decide, by decide⟩ (Nat.le_of_ble_eq_true rfl) dX9_judge_57 ?_
              intro r28 τ29 h30
              obtain ⟨eh30, h30⟩ := h30; replace eh30 := eh30.symm; subst eh30
              exact s_iret C X dX9_judge_60 ⟨hXτ26, (Fr.tr Fr.rf (Fr.mo h27.2 (by decide) (by decide))), trivial⟩
            · refine s_bipush C dX9_judge_43 (by decide) (fun z31 tz31 => ?_)
              exact s_iret C X dX9_judge_45 ⟨hX, Fr.rf, trivial⟩
          · have hnhc15 : c.toNatClampNeg = 2 := by unfold Int32.toNatClampNeg; omega
            refine s_aload_n C dX9_judge_31 rfl ?_
            refine s_getr (k := 2) (j := 27) C y0 fw_X9_23 rfl dX9_judge_32 ?_
            refine s_iload_n C dX9_judge_35 rfl ?_
            refine s_aald (kd := 0) C y27 ⟨_, rfl⟩ (by omega) dX9_judge_36 ?_
            rw [show c.toNatClampNeg = 2 by unfold Int32.toNatClampNeg; omega]
            refine s_get (k := 0) (x := (σ.1 33 0)) C y33 fw_X9_91 rfl rfl dX9_judge_37 ?_
            refine s_if_ne (tgt := 46) C dX9_judge_40 (by decide) (fun q32 => ?_) (fun q32 => ?_)
            · refine s_aload_n C dX9_judge_46 rfl ?_
              refine s_iload_n C dX9_judge_47 rfl ?_
              refine s_callVR (st := []) C (c_X9_freshSurvey_2 l ad σ c hX (by omega)) cv_X9_263 y0 rfl rfl rfl ⟨by decide, by decide⟩ (Nat.le_of_ble_eq_true rfl) dX9_judge_48 ?_
              intro r33 τ34 h35
              obtain ⟨eh35, h35⟩ := h35; subst eh35
              have hXτ34 := h35.1
              have prτ34 := hXτ34.pr
              have szτ34 := hXτ34.sz
              refine s_aload_n C dX9_judge_51 rfl ?_
              refine s_getr (k := 5) (j := 30) C y0 fw_X9_38 rfl dX9_judge_52 ?_
              refine s_iload_n C dX9_judge_55 rfl ?_
              refine s_aald (kd := 2) C y30 ⟨_, rfl⟩ (by omega) dX9_judge_56 ?_
              rw [show a.toNatClampNeg = 0 by unfold Int32.toNatClampNeg; omega]
              refine s_callVI (st := []) C (c_X7_judgeOf_2_0 l ad τ34 hXτ34) cv_X9_323 y39 rfl rfl rfl ⟨by decide, by decide⟩ (Nat.le_of_ble_eq_true rfl) dX9_judge_57 ?_
              intro r36 τ37 h38
              obtain ⟨eh38, h38⟩ := h38; replace eh38 := eh38.symm; subst eh38
              exact s_iret C X dX9_judge_60 ⟨hXτ34, (Fr.tr Fr.rf (Fr.mo h35.2 (by decide) (by decide))), trivial⟩
            · refine s_bipush C dX9_judge_43 (by decide) (fun z39 tz39 => ?_)
              exact s_iret C X dX9_judge_45 ⟨hX, Fr.rf, trivial⟩
        · refine s_bipush C dX9_judge_28 (by decide) (fun z40 tz40 => ?_)
          exact s_iret C X dX9_judge_30 ⟨hX, Fr.rf, trivial⟩
      · have hnhc10 : a.toNatClampNeg = 1 := by unfold Int32.toNatClampNeg; omega
        refine s_aload_n C dX9_judge_16 rfl ?_
        refine s_getr (k := 5) (j := 30) C y0 fw_X9_38 rfl dX9_judge_17 ?_
        refine s_iload_n C dX9_judge_20 rfl ?_
        refine s_aald (kd := 2) C y30 ⟨_, rfl⟩ (by omega) dX9_judge_21 ?_
        rw [show a.toNatClampNeg = 1 by unfold Int32.toNatClampNeg; omega]
        refine s_callVI (st := []) C (c_X3_isMissing_1 l ad σ  ) cv_X9_309 y41 rfl rfl rfl ⟨by decide, by decide⟩ (Nat.le_of_ble_eq_true rfl) dX9_judge_22 ?_
        intro r41 τ42 h43
        obtain ⟨eh43, h43⟩ := h43; replace eh43 := eh43.symm; subst eh43
        refine s_if_eq (tgt := 31) C dX9_judge_25 (by decide) (fun q44 => ?_) (fun q44 => ?_)
        · obtain hc45 | hc45 | hc45 : c.toInt = 0 ∨ c.toInt = 1 ∨ c.toInt = 2 := by omega
          · have hnhc45 : c.toNatClampNeg = 0 := by unfold Int32.toNatClampNeg; omega
            refine s_aload_n C dX9_judge_31 rfl ?_
            refine s_getr (k := 2) (j := 27) C y0 fw_X9_23 rfl dX9_judge_32 ?_
            refine s_iload_n C dX9_judge_35 rfl ?_
            refine s_aald (kd := 0) C y27 ⟨_, rfl⟩ (by omega) dX9_judge_36 ?_
            rw [show c.toNatClampNeg = 0 by unfold Int32.toNatClampNeg; omega]
            refine s_get (k := 0) (x := (σ.1 31 0)) C y31 fw_X9_91 rfl rfl dX9_judge_37 ?_
            refine s_if_ne (tgt := 46) C dX9_judge_40 (by decide) (fun q46 => ?_) (fun q46 => ?_)
            · refine s_aload_n C dX9_judge_46 rfl ?_
              refine s_iload_n C dX9_judge_47 rfl ?_
              refine s_callVR (st := []) C (c_X9_freshSurvey_0 l ad σ c hX (by omega)) cv_X9_263 y0 rfl rfl rfl ⟨by decide, by decide⟩ (Nat.le_of_ble_eq_true rfl) dX9_judge_48 ?_
              intro r47 τ48 h49
              obtain ⟨eh49, h49⟩ := h49; subst eh49
              have hXτ48 := h49.1
              have prτ48 := hXτ48.pr
              have szτ48 := hXτ48.sz
              refine s_aload_n C dX9_judge_51 rfl ?_
              refine s_getr (k := 5) (j := 30) C y0 fw_X9_38 rfl dX9_judge_52 ?_
              refine s_iload_n C dX9_judge_55 rfl ?_
              refine s_aald (kd := 2) C y30 ⟨_, rfl⟩ (by omega) dX9_judge_56 ?_
              rw [show a.toNatClampNeg = 1 by unfold Int32.toNatClampNeg; omega]
              refine s_callVI (st := []) C (c_X7_judgeOf_0_1 l ad τ48 hXτ48) cv_X9_323 y37 rfl rfl rfl ⟨by decide, by decide⟩ (Nat.le_of_ble_eq_true rfl) dX9_judge_57 ?_
              intro r50 τ51 h52
              obtain ⟨eh52, h52⟩ := h52; replace eh52 := eh52.symm; subst eh52
              exact s_iret C X dX9_judge_60 ⟨hXτ48, (Fr.tr Fr.rf (Fr.mo h49.2 (by decide) (by decide))), trivial⟩
            · refine s_bipush C dX9_judge_43 (by decide) (fun z53 tz53 => ?_)
              exact s_iret C X dX9_judge_45 ⟨hX, Fr.rf, trivial⟩
          · have hnhc45 : c.toNatClampNeg = 1 := by unfold Int32.toNatClampNeg; omega
            refine s_aload_n C dX9_judge_31 rfl ?_
            refine s_getr (k := 2) (j := 27) C y0 fw_X9_23 rfl dX9_judge_32 ?_
            refine s_iload_n C dX9_judge_35 rfl ?_
            refine s_aald (kd := 0) C y27 ⟨_, rfl⟩ (by omega) dX9_judge_36 ?_
            rw [show c.toNatClampNeg = 1 by unfold Int32.toNatClampNeg; omega]
            refine s_get (k := 0) (x := (σ.1 32 0)) C y32 fw_X9_91 rfl rfl dX9_judge_37 ?_
            refine s_if_ne (tgt := 46) C dX9_judge_40 (by decide) (fun q54 => ?_) (fun q54 => ?_)
            · refine s_aload_n C dX9_judge_46 rfl ?_
              refine s_iload_n C dX9_judge_47 rfl ?_
              refine s_callVR (st := []) C (c_X9_freshSurvey_1 l ad σ c hX (by omega)) cv_X9_263 y0 rfl rfl rfl ⟨by decide, by decide⟩ (Nat.le_of_ble_eq_true rfl) dX9_judge_48 ?_
              intro r55 τ56 h57
              obtain ⟨eh57, h57⟩ := h57; subst eh57
              have hXτ56 := h57.1
              have prτ56 := hXτ56.pr
              have szτ56 := hXτ56.sz
              refine s_aload_n C dX9_judge_51 rfl ?_
              refine s_getr (k := 5) (j := 30) C y0 fw_X9_38 rfl dX9_judge_52 ?_
              refine s_iload_n C dX9_judge_55 rfl ?_
              refine s_aald (kd := 2) C y30 ⟨_, rfl⟩ (by omega) dX9_judge_56 ?_
              rw [show a.toNatClampNeg = 1 by unfold Int32.toNatClampNeg; omega]
              refine s_callVI (st := []) C (c_X7_judgeOf_1_1 l ad τ56 hXτ56) cv_X9_323 y38 rfl rfl rfl ⟨by decide, by decide⟩ (Nat.le_of_ble_eq_true rfl) dX9_judge_57 ?_
              intro r58 τ59 h60
              obtain ⟨eh60, h60⟩ := h60; replace eh60 := eh60.symm; subst eh60
              exact s_iret C X dX9_judge_60 ⟨hXτ56, (Fr.tr Fr.rf (Fr.mo h57.2 (by decide) (by decide))), trivial⟩
            · refine s_bipush C dX9_judge_43 (by decide) (fun z61 tz61 => ?_)
              exact s_iret C X dX9_judge_45 ⟨hX, Fr.rf, trivial⟩
          · have hnhc45 : c.toNatClampNeg = 2 := by unfold Int32.toNatClampNeg; omega
            refine s_aload_n C dX9_judge_31 rfl ?_
            refine s_getr (k := 2) (j := 27) C y0 fw_X9_23 rfl dX9_judge_32 ?_
            refine s_iload_n C dX9_judge_35 rfl ?_
            refine s_aald (kd := 0) C y27 ⟨_, rfl⟩ (by omega) dX9_judge_36 ?_
            rw [show c.toNatClampNeg = 2 by unfold Int32.toNatClampNeg; omega]
            refine s_get (k := 0) (x := (σ.1 33 0)) C y33 fw_X9_91 rfl rfl dX9_judge_37 ?_
            refine s_if_ne (tgt := 46) C dX9_judge_40 (by decide) (fun q62 => ?_) (fun q62 => ?_)
            · refine s_aload_n C dX9_judge_46 rfl ?_
              refine s_iload_n C dX9_judge_47 rfl ?_
              refine s_callVR (st := []) C (c_X9_freshSurvey_2 l ad σ c hX (by omega)) cv_X9_263 y0 rfl rfl rfl ⟨by decide, by decide⟩ (Nat.le_of_ble_eq_true rfl) dX9_judge_48 ?_
              intro r63 τ64 h65
              obtain ⟨eh65, h65⟩ := h65; subst eh65
              have hXτ64 := h65.1
              have prτ64 := hXτ64.pr
              have szτ64 := hXτ64.sz
              refine s_aload_n C dX9_judge_51 rfl ?_
              refine s_getr (k := 5) (j := 30) C y0 fw_X9_38 rfl dX9_judge_52 ?_
              refine s_iload_n C dX9_judge_55 rfl ?_
              refine s_aald (kd := 2) C y30 ⟨_, rfl⟩ (by omega) dX9_judge_56 ?_
              rw [show a.toNatClampNeg = 1 by unfold Int32.toNatClampNeg; omega]
              refine s_callVI (st := []) C (c_X7_judgeOf_2_1 l ad τ64 hXτ64) cv_X9_323 y39 rfl rfl rfl ⟨by decide, by decide⟩ (Nat.le_of_ble_eq_true rfl) dX9_judge_57 ?_
              intro r66 τ67 h68
              obtain ⟨eh68, h68⟩ := h68; replace eh68 := eh68.symm; subst eh68
              exact s_iret C X dX9_judge_60 ⟨hXτ64, (Fr.tr Fr.rf (Fr.mo h65.2 (by decide) (by decide))), trivial⟩
            · refine s_bipush C dX9_judge_43 (by decide) (fun z69 tz69 => ?_)
              exact s_iret C X dX9_judge_45 ⟨hX, Fr.rf, trivial⟩
        · refine s_bipush C dX9_judge_28 (by decide) (fun z70 tz70 => ?_)
          exact s_iret C X dX9_judge_30 ⟨hX, Fr.rf, trivial⟩
      · have hnhc10 : a.toNatClampNeg = 2 := by unfold Int32.toNatClampNeg; omega
        refine s_aload_n C dX9_judge_16 rfl ?_
        refine s_getr (k := 5) (j := 30) C y0 fw_X9_38 rfl dX9_judge_17 ?_
        refine s_iload_n C dX9_judge_20 rfl ?_
        refine s_aald (kd := 2) C y30 ⟨_, rfl⟩ (by omega) dX9_judge_21 ?_
        rw [show a.toNatClampNeg = 2 by unfold Int32.toNatClampNeg; omega]
        refine s_callVI (st := []) C (c_X3_isMissing_2 l ad σ  ) cv_X9_309 y42 rfl rfl rfl ⟨by decide, by decide⟩ (Nat.le_of_ble_eq_true rfl) dX9_judge_22 ?_
        intro r71 τ72 h73
        obtain ⟨eh73, h73⟩ := h73; replace eh73 := eh73.symm; subst eh73
        refine s_if_eq (tgt := 31) C dX9_judge_25 (by decide) (fun q74 => ?_) (fun q74 => ?_)
        · obtain hc75 | hc75 | hc75 : c.toInt = 0 ∨ c.toInt = 1 ∨ c.toInt = 2 := by omega
          · have hnhc75 : c.toNatClampNeg = 0 := by unfold Int32.toNatClampNeg; omega
            refine s_aload_n C dX9_judge_31 rfl ?_
            refine s_getr (k := 2) (j := 27) C y0 fw_X9_23 rfl dX9_judge_32 ?_
            refine s_iload_n C dX9_judge_35 rfl ?_
            refine s_aald (kd := 0) C y27 ⟨_, rfl⟩ (by omega) dX9_judge_36 ?_
            rw [show c.toNatClampNeg = 0 by unfold Int32.toNatClampNeg; omega]
            refine s_get (k := 0) (x := (σ.1 31 0)) C y31 fw_X9_91 rfl rfl dX9_judge_37 ?_
            refine s_if_ne (tgt := 46) C dX9_judge_40 (by decide) (fun q76 => ?_) (fun q76 => ?_)
            · refine s_aload_n C dX9_judge_46 rfl ?_
              refine s_iload_n C dX9_judge_47 rfl ?_
              refine s_callVR (st := []) C (c_X9_freshSurvey_0 l ad σ c hX (by omega)) cv_X9_263 y0 rfl rfl rfl ⟨by decide, by decide⟩ (Nat.le_of_ble_eq_true rfl) dX9_judge_48 ?_
              intro r77 τ78 h79
              obtain ⟨eh79, h79⟩ := h79; subst eh79
              have hXτ78 := h79.1
              have prτ78 := hXτ78.pr
              have szτ78 := hXτ78.sz
              refine s_aload_n C dX9_judge_51 rfl ?_
              refine s_getr (k := 5) (j := 30) C y0 fw_X9_38 rfl dX9_judge_52 ?_
              refine s_iload_n C dX9_judge_55 rfl ?_
              refine s_aald (kd := 2) C y30 ⟨_, rfl⟩ (by omega) dX9_judge_56 ?_
              rw [show a.toNatClampNeg = 2 by unfold Int32.toNatClampNeg; omega]
              refine s_callVI (st := []) C (c_X7_judgeOf_0_2 l ad τ78 hXτ78) cv_X9_323 y37 rfl rfl rfl ⟨by decide, by decide⟩ (Nat.le_of_ble_eq_true rfl) dX9_judge_57 ?_
              intro r80 τ81 h82
              obtain ⟨eh82, h82⟩ := h82; replace eh82 := eh82.symm; subst eh82
              exact s_iret C X dX9_judge_60 ⟨hXτ78, (Fr.tr Fr.rf (Fr.mo h79.2 (by decide) (by decide))), trivial⟩
            · refine s_bipush C dX9_judge_43 (by decide) (fun z83 tz83 => ?_)
              exact s_iret C X dX9_judge_45 ⟨hX, Fr.rf, trivial⟩
          · have hnhc75 : c.toNatClampNeg = 1 := by unfold Int32.toNatClampNeg; omega
            refine s_aload_n C dX9_judge_31 rfl ?_
            refine s_getr (k := 2) (j := 27) C y0 fw_X9_23 rfl dX9_judge_32 ?_
            refine s_iload_n C dX9_judge_35 rfl ?_
            refine s_aald (kd := 0) C y27 ⟨_, rfl⟩ (by omega) dX9_judge_36 ?_
            rw [show c.toNatClampNeg = 1 by unfold Int32.toNatClampNeg; omega]
            refine s_get (k := 0) (x := (σ.1 32 0)) C y32 fw_X9_91 rfl rfl dX9_judge_37 ?_
            refine s_if_ne (tgt := 46) C dX9_judge_40 (by decide) (fun q84 => ?_) (fun q84 => ?_)
            · refine s_aload_n C dX9_judge_46 rfl ?_
              refine s_iload_n C dX9_judge_47 rfl ?_
              refine s_callVR (st := []) C (c_X9_freshSurvey_1 l ad σ c hX (by omega)) cv_X9_263 y0 rfl rfl rfl ⟨by decide, by decide⟩ (Nat.le_of_ble_eq_true rfl) dX9_judge_48 ?_
              intro r85 τ86 h87
              obtain ⟨eh87, h87⟩ := h87; subst eh87
              have hXτ86 := h87.1
              have prτ86 := hXτ86.pr
              have szτ86 := hXτ86.sz
              refine s_aload_n C dX9_judge_51 rfl ?_
              refine s_getr (k := 5) (j := 30) C y0 fw_X9_38 rfl dX9_judge_52 ?_
              refine s_iload_n C dX9_judge_55 rfl ?_
              refine s_aald (kd := 2) C y30 ⟨_, rfl⟩ (by omega) dX9_judge_56 ?_
              rw [show a.toNatClampNeg = 2 by unfold Int32.toNatClampNeg; omega]
              refine s_callVI (st := []) C (c_X7_judgeOf_1_2 l ad τ86 hXτ86) cv_X9_323 y38 rfl rfl rfl ⟨by decide, by decide⟩ (Nat.le_of_ble_eq_true rfl) dX9_judge_57 ?_
              intro r88 τ89 h90
              obtain ⟨eh90, h90⟩ := h90; replace eh90 := eh90.symm; subst eh90
              exact s_iret C X dX9_judge_60 ⟨hXτ86, (Fr.tr Fr.rf (Fr.mo h87.2 (by decide) (by decide))), trivial⟩
            · refine s_bipush C dX9_judge_43 (by decide) (fun z91 tz91 => ?_)
              exact s_iret C X dX9_judge_45 ⟨hX, Fr.rf, trivial⟩
          · have hnhc75 : c.toNatClampNeg = 2 := by unfold Int32.toNatClampNeg; omega
            refine s_aload_n C dX9_judge_31 rfl ?_
            refine s_getr (k := 2) (j := 27) C y0 fw_X9_23 rfl dX9_judge_32 ?_
            refine s_iload_n C dX9_judge_35 rfl ?_
            refine s_aald (kd := 0) C y27 ⟨_, rfl⟩ (by omega) dX9_judge_36 ?_
            rw [show c.toNatClampNeg = 2 by unfold Int32.toNatClampNeg; omega]
            refine s_get (k := 0) (x := (σ.1 33 0)) C y33 fw_X9_91 rfl rfl dX9_judge_37 ?_
            refine s_if_ne (tgt := 46) C dX9_judge_40 (by decide) (fun q92 => ?_) (fun q92 => ?_)
            · refine s_aload_n C dX9_judge_46 rfl ?_
              refine s_iload_n C dX9_judge_47 rfl ?_
              refine s_callVR (st := []) C (c_X9_freshSurvey_2 l ad σ c hX (by omega)) cv_X9_263 y0 rfl rfl rfl ⟨by decide, by decide⟩ (Nat.le_of_ble_eq_true rfl) dX9_judge_48 ?_
              intro r93 τ94 h95
              obtain ⟨eh95, h95⟩ := h95; subst eh95
              have hXτ94 := h95.1
              have prτ94 := hXτ94.pr
              have szτ94 := hXτ94.sz
              refine s_aload_n C dX9_judge_51 rfl ?_
              refine s_getr (k := 5) (j := 30) C y0 fw_X9_38 rfl dX9_judge_52 ?_
              refine s_iload_n C dX9_judge_55 rfl ?_
              refine s_aald (kd := 2) C y30 ⟨_, rfl⟩ (by omega) dX9_judge_56 ?_
              rw [show a.toNatClampNeg = 2 by unfold Int32.toNatClampNeg; omega]
              refine s_callVI (st := []) C (c_X7_judgeOf_2_2 l ad τ94 hXτ94) cv_X9_323 y39 rfl rfl rfl ⟨by decide, by decide⟩ (Nat.le_of_ble_eq_true rfl) dX9_judge_57 ?_
              intro r96 τ97 h98
              obtain ⟨eh98, h98⟩ := h98; replace eh98 := eh98.symm; subst eh98
              exact s_iret C X dX9_judge_60 ⟨hXτ94, (Fr.tr Fr.rf (Fr.mo h95.2 (by decide) (by decide))), trivial⟩
            · refine s_bipush C dX9_judge_43 (by decide) (fun z99 tz99 => ?_)
              exact s_iret C X dX9_judge_45 ⟨hX, Fr.rf, trivial⟩
        · refine s_bipush C dX9_judge_28 (by decide) (fun z100 tz100 => ?_)
          exact s_iret C X dX9_judge_30 ⟨hX, Fr.rf, trivial⟩
    · refine s_iconst C dX9_judge_14 (by decide) (fun z101 tz101 => ?_)
      exact s_iret C X dX9_judge_15 ⟨hX, Fr.rf, trivial⟩
set_option maxRecDepth 100000 in
theorem c_X9_forget (l : Launch) (ad : Nat → Nat) (σ : Sg) (c : Int32) (hX : IX σ.1)  : Mt l yX9_forget cX9_forget 3 (some .int) 2 ad σ [.ref (ad 0), .int c] (oI (fun r τ => IX τ.1 ∧ Fr [] [(31, 0), (32, 0), (33, 0)] σ τ ∧ True)) := by
  refine Mt_intro (by decide +kernel) (by simp [lg_sl, Value.category]) (fun E C X => ?_)
  show WP E ad 0 [some (.ref (ad 0)), some (.int c), none] [] σ
  refine s_aload_n C dX9_forget_0 rfl ?_
  refine s_iload_n C dX9_forget_1 rfl ?_
  refine s_iconst C dX9_forget_2 (by decide) (fun z1 tz1 => ?_)
  refine s_callVI (st := []) C (c_X9_lackOf l ad σ c z1 ) cv_X9_259 y0 rfl rfl rfl ⟨by decide, by decide⟩ (Nat.le_of_ble_eq_true rfl) dX9_forget_3 ?_
  intro r2 τ3 h4
  obtain ⟨eh4, h4⟩ := h4; replace eh4 := eh4.symm; subst eh4
  refine s_istore_n C dX9_forget_6 (by decide) (Nat.le_of_ble_eq_true rfl) rfl ?_
  show WP E ad 7 [some (.ref (ad 0)), some (.int c), some (.int r2)] [] σ
  refine s_iload_n C dX9_forget_7 rfl ?_
  refine s_if_eq (tgt := 13) C dX9_forget_8 (by decide) (fun q5 => ?_) (fun q5 => ?_)
  · obtain hc6 | hc6 | hc6 : c.toInt = 0 ∨ c.toInt = 1 ∨ c.toInt = 2 := by omega
    · have hnhc6 : c.toNatClampNeg = 0 := by unfold Int32.toNatClampNeg; omega
      refine s_aload_n C dX9_forget_13 rfl ?_
      refine s_getr (k := 2) (j := 27) C y0 fw_X9_23 rfl dX9_forget_14 ?_
      refine s_iload_n C dX9_forget_17 rfl ?_
      refine s_aald (kd := 0) C y27 ⟨_, rfl⟩ (by omega) dX9_forget_18 ?_
      rw [show c.toNatClampNeg = 0 by unfold Int32.toNatClampNeg; omega]
      refine s_iconst C dX9_forget_19 (by decide) (fun z7 tz7 => ?_)
      refine s_putz (k := 0) C y31 fw_X9_91 fp_0_0 rfl (by omega) dX9_forget_20 ?_
      refine s_iconst C dX9_forget_23 (by decide) (fun z8 tz8 => ?_)
      exact s_iret C X dX9_forget_24 ⟨⟨hX.1, hX.2.1, ⟨Or.inl (by show Int32.toInt z7 = 0; omega), hX.C0.2⟩, hX.2.2.2.1, hX.2.2.2.2.1, hX.2.2.2.2.2.1, hX.2.2.2.2.2.2.1, hX.2.2.2.2.2.2.2.1, hX.2.2.2.2.2.2.2.2.1, hX.2.2.2.2.2.2.2.2.2.1, hX.2.2.2.2.2.2.2.2.2.2.1, hX.2.2.2.2.2.2.2.2.2.2.2.1, hX.2.2.2.2.2.2.2.2.2.2.2.2.1, hX.2.2.2.2.2.2.2.2.2.2.2.2.2⟩, (Fr.sV Fr.rf (Or.inr (by decide))), trivial⟩
    · have hnhc6 : c.toNatClampNeg = 1 := by unfold Int32.toNatClampNeg; omega
      refine s_aload_n C dX9_forget_13 rfl ?_
      refine s_getr (k := 2) (j := 27) C y0 fw_X9_23 rfl dX9_forget_14 ?_
      refine s_iload_n C dX9_forget_17 rfl ?_
      refine s_aald (kd := 0) C y27 ⟨_, rfl⟩ (by omega) dX9_forget_18 ?_
      rw [show c.toNatClampNeg = 1 by unfold Int32.toNatClampNeg; omega]
      refine s_iconst C dX9_forget_19 (by decide) (fun z9 tz9 => ?_)
      refine s_putz (k := 0) C y32 fw_X9_91 fp_0_0 rfl (by omega) dX9_forget_20 ?_
      refine s_iconst C dX9_forget_23 (by decide) (fun z10 tz10 => ?_)
      exact s_iret C X dX9_forget_24 ⟨⟨hX.1, hX.2.1, hX.2.2.1, ⟨Or.inl (by show Int32.toInt z9 = 0; omega), hX.C1.2⟩, hX.2.2.2.2.1, hX.2.2.2.2.2.1, hX.2.2.2.2.2.2.1, hX.2.2.2.2.2.2.2.1, hX.2.2.2.2.2.2.2.2.1, hX.2.2.2.2.2.2.2.2.2.1, hX.2.2.2.2.2.2.2.2.2.2.1, hX.2.2.2.2.2.2.2.2.2.2.2.1, hX.2.2.2.2.2.2.2.2.2.2.2.2.1, hX.2.2.2.2.2.2.2.2.2.2.2.2.2⟩, (Fr.sV Fr.rf (Or.inr (by decide))), trivial⟩
    · have hnhc6 : c.toNatClampNeg = 2 := by unfold Int32.toNatClampNeg; omega
      refine s_aload_n C dX9_forget_13 rfl ?_
      refine s_getr (k := 2) (j := 27) C y0 fw_X9_23 rfl dX9_forget_14 ?_
      refine s_iload_n C dX9_forget_17 rfl ?_
      refine s_aald (kd := 0) C y27 ⟨_, rfl⟩ (by omega) dX9_forget_18 ?_
      rw [show c.toNatClampNeg = 2 by unfold Int32.toNatClampNeg; omega]
      refine s_iconst C dX9_forget_19 (by decide) (fun z11 tz11 => ?_)
      refine s_putz (k := 0) C y33 fw_X9_91 fp_0_0 rfl (by omega) dX9_forget_20 ?_
      refine s_iconst C dX9_forget_23 (by decide) (fun z12 tz12 => ?_)
      exact s_iret C X dX9_forget_24 ⟨⟨hX.1, hX.2.1, hX.2.2.1, hX.2.2.2.1, ⟨Or.inl (by show Int32.toInt z11 = 0; omega), hX.C2.2⟩, hX.2.2.2.2.2.1, hX.2.2.2.2.2.2.1, hX.2.2.2.2.2.2.2.1, hX.2.2.2.2.2.2.2.2.1, hX.2.2.2.2.2.2.2.2.2.1, hX.2.2.2.2.2.2.2.2.2.2.1, hX.2.2.2.2.2.2.2.2.2.2.2.1, hX.2.2.2.2.2.2.2.2.2.2.2.2.1, hX.2.2.2.2.2.2.2.2.2.2.2.2.2⟩, (Fr.sV Fr.rf (Or.inr (by decide))), trivial⟩
  · refine s_iload_n C dX9_forget_11 rfl ?_
    exact s_iret C X dX9_forget_12 ⟨hX, Fr.rf, trivial⟩
set_option maxRecDepth 100000 in
theorem c_X9_mark (l : Launch) (ad : Nat → Nat) (σ : Sg) (p : Int32) (k : Int32) (w : Int32) (hX : IX σ.1)  : Mt l yX9_mark cX9_mark 6 (some .int) 2 ad σ [.ref (ad 0), .int p, .int k, .int w] (oI (fun r τ => IX τ.1 ∧ Fr [8] [] σ τ ∧ True)) := by
  have hpr := hX.pr
  have htot := hX.tot
  have hms := hX.ms
  refine Mt_intro (by decide +kernel) (by simp [lg_sl, Value.category]) (fun E C X => ?_)
  show WP E ad 0 [some (.ref (ad 0)), some (.int p), some (.int k), some (.int w), none, none] [] σ
  refine s_aload_n C dX9_mark_0 rfl ?_
  refine s_getr (k := 0) (j := 1) C y0 fw_X9_12 rfl dX9_mark_1 ?_
  refine s_iload_n C dX9_mark_4 rfl ?_
  refine s_iload_n C dX9_mark_5 rfl ?_
  refine s_callVI (st := []) C (c_X5_hasEvent l ad σ p k (by omega)) cv_X9_144 y1 rfl rfl rfl ⟨by decide, by decide⟩ (Nat.le_of_ble_eq_true rfl) dX9_mark_6 ?_
  intro r1 τ2 h3
  obtain ⟨eh3, h3⟩ := h3; replace eh3 := eh3.symm; subst eh3
  have bv6 := hX.ev p.toNatClampNeg
  refine s_if_ne (tgt := 14) C dX9_mark_9 (by decide) (fun q4 => ?_) (fun q4 => ?_)
  · refine s_iload_n C dX9_mark_14 rfl ?_
    refine s_if_eq (tgt := 26) C dX9_mark_15 (by decide) (fun q5 => ?_) (fun q5 => ?_)
    · refine s_iload_n C dX9_mark_26 rfl ?_
      refine s_iload_n C dX9_mark_27 rfl ?_
      refine s_callSI (st := []) C (c_X5_spotOf l ad σ p k (by omega) (by omega)) cv_X9_148 rfl rfl ⟨by decide, by decide⟩ (Nat.le_of_ble_eq_true rfl) dX9_mark_28 ?_
      intro r6 τ7 h8
      obtain ⟨eh8, h8⟩ := h8; replace eh8 := eh8.symm; subst eh8
      refine s_istore C dX9_mark_31 (by decide) (Nat.le_of_ble_eq_true rfl) rfl ?_
      show WP E ad 33 [some (.ref (ad 0)), some (.int p), some (.int k), some (.int w), some (.int r6), none] [] σ
      refine s_aload_n C dX9_mark_33 rfl ?_
      refine s_getr (k := 0) (j := 1) C y0 fw_X9_12 rfl dX9_mark_34 ?_
      refine s_getr (k := 9) (j := 8) C y1 fw_X9_161 rfl dX9_mark_37 ?_
      refine s_iload C dX9_mark_40 rfl ?_
      refine s_iald (r := (σ.1 8 r6.toNatClampNeg)) C y8 (by omega) rfl dX9_mark_42 ?_
      refine s_istore C dX9_mark_43 (by decide) (Nat.le_of_ble_eq_true rfl) rfl ?_
      show WP E ad 45 [some (.ref (ad 0)), some (.int p), some (.int k), some (.int w), some (.int r6), some (.int (σ.1 8 r6.toNatClampNeg))] [] σ
      refine s_aload_n C dX9_mark_45 rfl ?_
      refine s_getr (k := 0) (j := 1) C y0 fw_X9_12 rfl dX9_mark_46 ?_
      refine s_getr (k := 9) (j := 8) C y1 fw_X9_161 rfl dX9_mark_49 ?_
      refine s_iload C dX9_mark_52 rfl ?_
      refine s_iload_n C dX9_mark_54 rfl ?_
      refine s_iast C y8 (by omega) dX9_mark_55 ?_
      refine s_iload C dX9_mark_56 rfl ?_
      exact s_iret C X dX9_mark_58 ⟨hX, (Fr.sV Fr.rf (Or.inl (by decide))), trivial⟩
    · refine s_iload_n C dX9_mark_18 rfl ?_
      refine s_iconst C dX9_mark_19 (by decide) (fun z9 tz9 => ?_)
      refine s_icmp_eq (tgt := 26) C dX9_mark_20 (by decide) (fun q10 => ?_) (fun q10 => ?_)
      · refine s_iload_n C dX9_mark_26 rfl ?_
        refine s_iload_n C dX9_mark_27 rfl ?_
        refine s_callSI (st := []) C (c_X5_spotOf l ad σ p k (by omega) (by omega)) cv_X9_148 rfl rfl ⟨by decide, by decide⟩ (Nat.le_of_ble_eq_true rfl) dX9_mark_28 ?_
        intro r11 τ12 h13
        obtain ⟨eh13, h13⟩ := h13; replace eh13 := eh13.symm; subst eh13
        refine s_istore C dX9_mark_31 (by decide) (Nat.le_of_ble_eq_true rfl) rfl ?_
        show WP E ad 33 [some (.ref (ad 0)), some (.int p), some (.int k), some (.int w), some (.int r11), none] [] σ
        refine s_aload_n C dX9_mark_33 rfl ?_
        refine s_getr (k := 0) (j := 1) C y0 fw_X9_12 rfl dX9_mark_34 ?_
        refine s_getr (k := 9) (j := 8) C y1 fw_X9_161 rfl dX9_mark_37 ?_
        refine s_iload C dX9_mark_40 rfl ?_
        refine s_iald (r := (σ.1 8 r11.toNatClampNeg)) C y8 (by omega) rfl dX9_mark_42 ?_
        refine s_istore C dX9_mark_43 (by decide) (Nat.le_of_ble_eq_true rfl) rfl ?_
        show WP E ad 45 [some (.ref (ad 0)), some (.int p), some (.int k), some (.int w), some (.int r11), some (.int (σ.1 8 r11.toNatClampNeg))] [] σ
        refine s_aload_n C dX9_mark_45 rfl ?_
        refine s_getr (k := 0) (j := 1) C y0 fw_X9_12 rfl dX9_mark_46 ?_
        refine s_getr (k := 9) (j := 8) C y1 fw_X9_161 rfl dX9_mark_49 ?_
        refine s_iload C dX9_mark_52 rfl ?_
        refine s_iload_n C dX9_mark_54 rfl ?_
        refine s_iast C y8 (by omega) dX9_mark_55 ?_
        refine s_iload C dX9_mark_56 rfl ?_
        exact s_iret C X dX9_mark_58 ⟨hX, (Fr.sV Fr.rf (Or.inl (by decide))), trivial⟩
      · refine s_bipush C dX9_mark_23 (by decide) (fun z14 tz14 => ?_)
        exact s_iret C X dX9_mark_25 ⟨hX, Fr.rf, trivial⟩
  · refine s_iconst C dX9_mark_12 (by decide) (fun z15 tz15 => ?_)
    exact s_iret C X dX9_mark_13 ⟨hX, Fr.rf, trivial⟩
set_option maxRecDepth 100000 in
theorem c_X9_lay (l : Launch) (ad : Nat → Nat) (σ : Sg) (a : Int32) (i : Int32) (v : Int64) (hX : IX σ.1)  : Mt l yX9_lay cX9_lay 5 (some .int) 1 ad σ [.ref (ad 0), .int a, .int i, .long v] (oI (fun r τ => IX τ.1 ∧ Fr [58, 59, 60] [] σ τ ∧ True)) := by
  have l0 := hX.L0
  have l1 := hX.L1
  have l2 := hX.L2
  refine Mt_intro (by decide +kernel) (by simp [lg_sl, Value.category]) (fun E C X => ?_)
  show WP E ad 0 [some (.ref (ad 0)), some (.int a), some (.int i), some (.long v), none] [] σ
  refine s_iload_n C dX9_lay_0 rfl ?_
  refine s_callSI (st := []) C (c_X9_isList l ad σ a ) cv_X9_303 rfl rfl ⟨by decide, by decide⟩ (Nat.le_of_ble_eq_true rfl) dX9_lay_1 ?_
  intro r1 τ2 h3
  obtain ⟨eh3, h3⟩ := h3; replace eh3 := eh3.symm; subst eh3
  refine s_if_ne (tgt := 9) C dX9_lay_4 (by decide) (fun q4 => ?_) (fun q4 => ?_)
  · obtain hc5 | hc5 | hc5 : a.toInt = 0 ∨ a.toInt = 1 ∨ a.toInt = 2 := by omega
    · have hnhc5 : a.toNatClampNeg = 0 := by unfold Int32.toNatClampNeg; omega
      refine s_aload_n C dX9_lay_9 rfl ?_
      refine s_getr (k := 5) (j := 30) C y0 fw_X9_38 rfl dX9_lay_10 ?_
      refine s_iload_n C dX9_lay_13 rfl ?_
      refine s_aald (kd := 2) C y30 ⟨_, rfl⟩ (by omega) dX9_lay_14 ?_
      rw [show a.toNatClampNeg = 0 by unfold Int32.toNatClampNeg; omega]
      refine s_callVI (st := []) C (c_X3_isMissing_0 l ad σ  ) cv_X9_309 y40 rfl rfl rfl ⟨by decide, by decide⟩ (Nat.le_of_ble_eq_true rfl) dX9_lay_15 ?_
      intro r6 τ7 h8
      obtain ⟨eh8, h8⟩ := h8; replace eh8 := eh8.symm; subst eh8
      refine s_if_eq (tgt := 24) C dX9_lay_18 (by decide) (fun q9 => ?_) (fun q9 => ?_)
      · refine s_aload_n C dX9_lay_24 rfl ?_
        refine s_getr (k := 5) (j := 30) C y0 fw_X9_38 rfl dX9_lay_25 ?_
        refine s_iload_n C dX9_lay_28 rfl ?_
        refine s_aald (kd := 2) C y30 ⟨_, rfl⟩ (by omega) dX9_lay_29 ?_
        rw [show a.toNatClampNeg = 0 by unfold Int32.toNatClampNeg; omega]
        refine s_iload_n C dX9_lay_30 rfl ?_
        refine s_callVI (st := []) C (c_X3_hasPlace_0 l ad σ i ) cv_X9_312 y40 rfl rfl rfl ⟨by decide, by decide⟩ (Nat.le_of_ble_eq_true rfl) dX9_lay_31 ?_
        intro r10 τ11 h12
        obtain ⟨eh12, h12⟩ := h12; replace eh12 := eh12.symm; subst eh12
        refine s_if_ne (tgt := 40) C dX9_lay_34 (by decide) (fun q13 => ?_) (fun q13 => ?_)
        · refine s_aload_n C dX9_lay_40 rfl ?_
          refine s_getr (k := 5) (j := 30) C y0 fw_X9_38 rfl dX9_lay_41 ?_
          refine s_iload_n C dX9_lay_44 rfl ?_
          refine s_aald (kd := 2) C y30 ⟨_, rfl⟩ (by omega) dX9_lay_45 ?_
          rw [show a.toNatClampNeg = 0 by unfold Int32.toNatClampNeg; omega]
          refine s_getr (k := 1) (j := 58) C y40 fw_X9_315 rfl dX9_lay_46 ?_
          refine s_iload_n C dX9_lay_49 rfl ?_
          refine s_lload_n C dX9_lay_50 rfl ?_
          refine s_last C y58 (by omega) dX9_lay_51 ?_
          refine s_iconst C dX9_lay_52 (by decide) (fun z14 tz14 => ?_)
          exact s_iret C X dX9_lay_53 ⟨hX, (Fr.sL Fr.rf (by decide)), trivial⟩
        · refine s_bipush C dX9_lay_37 (by decide) (fun z15 tz15 => ?_)
          exact s_iret C X dX9_lay_39 ⟨hX, Fr.rf, trivial⟩
      · refine s_bipush C dX9_lay_21 (by decide) (fun z16 tz16 => ?_)
        exact s_iret C X dX9_lay_23 ⟨hX, Fr.rf, trivial⟩
    · have hnhc5 : a.toNatClampNeg = 1 := by unfold Int32.toNatClampNeg; omega
      refine s_aload_n C dX9_lay_9 rfl ?_
      refine s_getr (k := 5) (j := 30) C y0 fw_X9_38 rfl dX9_lay_10 ?_
      refine s_iload_n C dX9_lay_13 rfl ?_
      refine s_aald (kd := 2) C y30 ⟨_, rfl⟩ (by omega) dX9_lay_14 ?_
      rw [show a.toNatClampNeg = 1 by unfold Int32.toNatClampNeg; omega]
      refine s_callVI (st := []) C (c_X3_isMissing_1 l ad σ  ) cv_X9_309 y41 rfl rfl rfl ⟨by decide, by decide⟩ (Nat.le_of_ble_eq_true rfl) dX9_lay_15 ?_
      intro r17 τ18 h19
      obtain ⟨eh19, h19⟩ := h19; replace eh19 := eh19.symm; subst eh19
      refine s_if_eq (tgt := 24) C dX9_lay_18 (by decide) (fun q20 => ?_) (fun q20 => ?_)
      · refine s_aload_n C dX9_lay_24 rfl ?_
        refine s_getr (k := 5) (j := 30) C y0 fw_X9_38 rfl dX9_lay_25 ?_
        refine s_iload_n C dX9_lay_28 rfl ?_
        refine s_aald (kd := 2) C y30 ⟨_, rfl⟩ (by omega) dX9_lay_29 ?_
        rw [show a.toNatClampNeg = 1 by unfold Int32.toNatClampNeg; omega]
        refine s_iload_n C dX9_lay_30 rfl ?_
        refine s_callVI (st := []) C (c_X3_hasPlace_1 l ad σ i ) cv_X9_312 y41 rfl rfl rfl ⟨by decide, by decide⟩ (Nat.le_of_ble_eq_true rfl) dX9_lay_31 ?_
        intro r21 τ22 h23
        obtain ⟨eh23, h23⟩ := h23; replace eh23 := eh23.symm; subst eh23
        refine s_if_ne (tgt := 40) C dX9_lay_34 (by decide) (fun q24 => ?_) (fun q24 => ?_)
        · refine s_aload_n C dX9_lay_40 rfl ?_
          refine s_getr (k := 5) (j := 30) C y0 fw_X9_38 rfl dX9_lay_41 ?_
          refine s_iload_n C dX9_lay_44 rfl ?_
          refine s_aald (kd := 2) C y30 ⟨_, rfl⟩ (by omega) dX9_lay_45 ?_
          rw [show a.toNatClampNeg = 1 by unfold Int32.toNatClampNeg; omega]
          refine s_getr (k := 1) (j := 59) C y41 fw_X9_315 rfl dX9_lay_46 ?_
          refine s_iload_n C dX9_lay_49 rfl ?_
          refine s_lload_n C dX9_lay_50 rfl ?_
          refine s_last C y59 (by omega) dX9_lay_51 ?_
          refine s_iconst C dX9_lay_52 (by decide) (fun z25 tz25 => ?_)
          exact s_iret C X dX9_lay_53 ⟨hX, (Fr.sL Fr.rf (by decide)), trivial⟩
        · refine s_bipush C dX9_lay_37 (by decide) (fun z26 tz26 => ?_)
          exact s_iret C X dX9_lay_39 ⟨hX, Fr.rf, trivial⟩
      · refine s_bipush C dX9_lay_21 (by decide) (fun z27 tz27 => ?_)
        exact s_iret C X dX9_lay_23 ⟨hX, Fr.rf, trivial⟩
    · have hnhc5 : a.toNatClampNeg = 2 := by unfold Int32.toNatClampNeg; omega
      refine s_aload_n C dX9_lay_9 rfl ?_
      refine s_getr (k := 5) (j := 30) C y0 fw_X9_38 rfl dX9_lay_10 ?_
      refine s_iload_n C dX9_lay_13 rfl ?_
      refine s_aald (kd := 2) C y30 ⟨_, rfl⟩ (by omega) dX9_lay_14 ?_
      rw [show a.toNatClampNeg = 2 by unfold Int32.toNatClampNeg; omega]
      refine s_callVI (st := []) C (c_X3_isMissing_2 l ad σ  ) cv_X9_309 y42 rfl rfl rfl ⟨by decide, by decide⟩ (Nat.le_of_ble_eq_true rfl) dX9_lay_15 ?_
      intro r28 τ29 h30
      obtain ⟨eh30, h30⟩ := h30; replace eh30 := eh30.symm; subst eh30
      refine s_if_eq (tgt := 24) C dX9_lay_18 (by decide) (fun q31 => ?_) (fun q31 => ?_)
      · refine s_aload_n C dX9_lay_24 rfl ?_
        refine s_getr (k := 5) (j := 30) C y0 fw_X9_38 rfl dX9_lay_25 ?_
        refine s_iload_n C dX9_lay_28 rfl ?_
        refine s_aald (kd := 2) C y30 ⟨_, rfl⟩ (by omega) dX9_lay_29 ?_
        rw [show a.toNatClampNeg = 2 by unfold Int32.toNatClampNeg; omega]
        refine s_iload_n C dX9_lay_30 rfl ?_
        refine s_callVI (st := []) C (c_X3_hasPlace_2 l ad σ i ) cv_X9_312 y42 rfl rfl rfl ⟨by decide, by decide⟩ (Nat.le_of_ble_eq_true rfl) dX9_lay_31 ?_
        intro r32 τ33 h34
        obtain ⟨eh34, h34⟩ := h34; replace eh34 := eh34.symm; subst eh34
        refine s_if_ne (tgt := 40) C dX9_lay_34 (by decide) (fun q35 => ?_) (fun q35 => ?_)
        · refine s_aload_n C dX9_lay_40 rfl ?_
          refine s_getr (k := 5) (j := 30) C y0 fw_X9_38 rfl dX9_lay_41 ?_
          refine s_iload_n C dX9_lay_44 rfl ?_
          refine s_aald (kd := 2) C y30 ⟨_, rfl⟩ (by omega) dX9_lay_45 ?_
          rw [show a.toNatClampNeg = 2 by unfold Int32.toNatClampNeg; omega]
          refine s_getr (k := 1) (j := 60) C y42 fw_X9_315 rfl dX9_lay_46 ?_
          refine s_iload_n C dX9_lay_49 rfl ?_
          refine s_lload_n C dX9_lay_50 rfl ?_
          refine s_last C y60 (by omega) dX9_lay_51 ?_
          refine s_iconst C dX9_lay_52 (by decide) (fun z36 tz36 => ?_)
          exact s_iret C X dX9_lay_53 ⟨hX, (Fr.sL Fr.rf (by decide)), trivial⟩
        · refine s_bipush C dX9_lay_37 (by decide) (fun z37 tz37 => ?_)
          exact s_iret C X dX9_lay_39 ⟨hX, Fr.rf, trivial⟩
      · refine s_bipush C dX9_lay_21 (by decide) (fun z38 tz38 => ?_)
        exact s_iret C X dX9_lay_23 ⟨hX, Fr.rf, trivial⟩
  · refine s_iconst C dX9_lay_7 (by decide) (fun z39 tz39 => ?_)
    exact s_iret C X dX9_lay_8 ⟨hX, Fr.rf, trivial⟩
set_option maxRecDepth 100000 in
theorem c_X9_get (l : Launch) (ad : Nat → Nat) (σ : Sg) (a : Int32) (i : Int32) (hX : IX σ.1) : Mt l yX9_get cX9_get 3 (some .long) 1 ad σ [.ref (ad 0), .int a, .int i] (oL (fun r τ => τ = σ ∧ True)) := by
  have l0 := hX.L0
  have l1 := hX.L1
  have l2 := hX.L2
  refine Mt_intro (by decide +kernel) (by simp [lg_sl, Value.category]) (fun E C X => ?_)
  show WP E ad 0 [some (.ref (ad 0)), some (.int a), some (.int i)] [] σ
  refine s_iload_n C dX9_get_0 rfl ?_
  refine s_callSI (st := []) C (c_X9_isList l ad σ a ) cv_X9_303 rfl rfl ⟨by decide, by decide⟩ (Nat.le_of_ble_eq_true rfl) dX9_get_1 ?_
  intro r1 τ2 h3
  obtain ⟨eh3, h3⟩ := h3; replace eh3 := eh3.symm; subst eh3
  refine s_if_eq (tgt := 20) C dX9_get_4 (by decide) (fun q4 => ?_) (fun q4 => ?_)
  · obtain ⟨L5, eL5⟩ : ∃ q : Int64, q = -9223372036854775808 := ⟨_, rfl⟩
    have tL5 : L5.toInt = -9223372036854775808 := by rw [eL5]; rfl
    refine s_ldc2 (v := L5) C dX9_get_20 (by rw [eL5]; exact mw 614 (by decide +kernel) rfl) ?_
    exact s_lret C X dX9_get_23 ⟨rfl, trivial⟩
  · obtain hc6 | hc6 | hc6 : a.toInt = 0 ∨ a.toInt = 1 ∨ a.toInt = 2 := by omega
    · have hnhc6 : a.toNatClampNeg = 0 := by unfold Int32.toNatClampNeg; omega
      refine s_aload_n C dX9_get_7 rfl ?_
      refine s_getr (k := 5) (j := 30) C y0 fw_X9_38 rfl dX9_get_8 ?_
      refine s_iload_n C dX9_get_11 rfl ?_
      refine s_aald (kd := 2) C y30 ⟨_, rfl⟩ (by omega) dX9_get_12 ?_
      rw [show a.toNatClampNeg = 0 by unfold Int32.toNatClampNeg; omega]
      refine s_iload_n C dX9_get_13 rfl ?_
      refine s_callVI (st := []) C (c_X3_hasPlace_0 l ad σ i ) cv_X9_312 y40 rfl rfl rfl ⟨by decide, by decide⟩ (Nat.le_of_ble_eq_true rfl) dX9_get_14 ?_
      intro r7 τ8 h9
      obtain ⟨eh9, h9⟩ := h9; replace eh9 := eh9.symm; subst eh9
      refine s_if_ne (tgt := 24) C dX9_get_17 (by decide) (fun q10 => ?_) (fun q10 => ?_)
      · refine s_aload_n C dX9_get_24 rfl ?_
        refine s_getr (k := 5) (j := 30) C y0 fw_X9_38 rfl dX9_get_25 ?_
        refine s_iload_n C dX9_get_28 rfl ?_
        refine s_aald (kd := 2) C y30 ⟨_, rfl⟩ (by omega) dX9_get_29 ?_
        rw [show a.toNatClampNeg = 0 by unfold Int32.toNatClampNeg; omega]
        refine s_getr (k := 1) (j := 58) C y40 fw_X9_315 rfl dX9_get_30 ?_
        refine s_iload_n C dX9_get_33 rfl ?_
        refine s_lald (r := (σ.2 58 i.toNatClampNeg)) C y58 (by omega) rfl dX9_get_34 ?_
        exact s_lret C X dX9_get_35 ⟨rfl, trivial⟩
      · obtain ⟨L11, eL11⟩ : ∃ q : Int64, q = -9223372036854775808 := ⟨_, rfl⟩
        have tL11 : L11.toInt = -9223372036854775808 := by rw [eL11]; rfl
        refine s_ldc2 (v := L11) C dX9_get_20 (by rw [eL11]; exact mw 614 (by decide +kernel) rfl) ?_
        exact s_lret C X dX9_get_23 ⟨rfl, trivial⟩
    · have hnhc6 : a.toNatClampNeg = 1 := by unfold Int32.toNatClampNeg; omega
      refine s_aload_n C dX9_get_7 rfl ?_
      refine s_getr (k := 5) (j := 30) C y0 fw_X9_38 rfl dX9_get_8 ?_
      refine s_iload_n C dX9_get_11 rfl ?_
      refine s_aald (kd := 2) C y30 ⟨_, rfl⟩ (by omega) dX9_get_12 ?_
      rw [show a.toNatClampNeg = 1 by unfold Int32.toNatClampNeg; omega]
      refine s_iload_n C dX9_get_13 rfl ?_
      refine s_callVI (st := []) C (c_X3_hasPlace_1 l ad σ i ) cv_X9_312 y41 rfl rfl rfl ⟨by decide, by decide⟩ (Nat.le_of_ble_eq_true rfl) dX9_get_14 ?_
      intro r12 τ13 h14
      obtain ⟨eh14, h14⟩ := h14; replace eh14 := eh14.symm; subst eh14
      refine s_if_ne (tgt := 24) C dX9_get_17 (by decide) (fun q15 => ?_) (fun q15 => ?_)
      · refine s_aload_n C dX9_get_24 rfl ?_
        refine s_getr (k := 5) (j := 30) C y0 fw_X9_38 rfl dX9_get_25 ?_
        refine s_iload_n C dX9_get_28 rfl ?_
        refine s_aald (kd := 2) C y30 ⟨_, rfl⟩ (by omega) dX9_get_29 ?_
        rw [show a.toNatClampNeg = 1 by unfold Int32.toNatClampNeg; omega]
        refine s_getr (k := 1) (j := 59) C y41 fw_X9_315 rfl dX9_get_30 ?_
        refine s_iload_n C dX9_get_33 rfl ?_
        refine s_lald (r := (σ.2 59 i.toNatClampNeg)) C y59 (by omega) rfl dX9_get_34 ?_
        exact s_lret C X dX9_get_35 ⟨rfl, trivial⟩
      · obtain ⟨L16, eL16⟩ : ∃ q : Int64, q = -9223372036854775808 := ⟨_, rfl⟩
        have tL16 : L16.toInt = -9223372036854775808 := by rw [eL16]; rfl
        refine s_ldc2 (v := L16) C dX9_get_20 (by rw [eL16]; exact mw 614 (by decide +kernel) rfl) ?_
        exact s_lret C X dX9_get_23 ⟨rfl, trivial⟩
    · have hnhc6 : a.toNatClampNeg = 2 := by unfold Int32.toNatClampNeg; omega
      refine s_aload_n C dX9_get_7 rfl ?_
      refine s_getr (k := 5) (j := 30) C y0 fw_X9_38 rfl dX9_get_8 ?_
      refine s_iload_n C dX9_get_11 rfl ?_
      refine s_aald (kd := 2) C y30 ⟨_, rfl⟩ (by omega) dX9_get_12 ?_
      rw [show a.toNatClampNeg = 2 by unfold Int32.toNatClampNeg; omega]
      refine s_iload_n C dX9_get_13 rfl ?_
      refine s_callVI (st := []) C (c_X3_hasPlace_2 l ad σ i ) cv_X9_312 y42 rfl rfl rfl ⟨by decide, by decide⟩ (Nat.le_of_ble_eq_true rfl) dX9_get_14 ?_
      intro r17 τ18 h19
      obtain ⟨eh19, h19⟩ := h19; replace eh19 := eh19.symm; subst eh19
      refine s_if_ne (tgt := 24) C dX9_get_17 (by decide) (fun q20 => ?_) (fun q20 => ?_)
      · refine s_aload_n C dX9_get_24 rfl ?_
        refine s_getr (k := 5) (j := 30) C y0 fw_X9_38 rfl dX9_get_25 ?_
        refine s_iload_n C dX9_get_28 rfl ?_
        refine s_aald (kd := 2) C y30 ⟨_, rfl⟩ (by omega) dX9_get_29 ?_
        rw [show a.toNatClampNeg = 2 by unfold Int32.toNatClampNeg; omega]
        refine s_getr (k := 1) (j := 60) C y42 fw_X9_315 rfl dX9_get_30 ?_
        refine s_iload_n C dX9_get_33 rfl ?_
        refine s_lald (r := (σ.2 60 i.toNatClampNeg)) C y60 (by omega) rfl dX9_get_34 ?_
        exact s_lret C X dX9_get_35 ⟨rfl, trivial⟩
      · obtain ⟨L21, eL21⟩ : ∃ q : Int64, q = -9223372036854775808 := ⟨_, rfl⟩
        have tL21 : L21.toInt = -9223372036854775808 := by rw [eL21]; rfl
        refine s_ldc2 (v := L21) C dX9_get_20 (by rw [eL21]; exact mw 614 (by decide +kernel) rfl) ?_
        exact s_lret C X dX9_get_23 ⟨rfl, trivial⟩
set_option maxRecDepth 100000 in
theorem c_X9_list (l : Launch) (ad : Nat → Nat) (σ : Sg) (a : Int32) (n : Int32) (hX : IX σ.1)  : Mt l yX9_list cX9_list 3 (some .int) 2 ad σ [.ref (ad 0), .int a, .int n] (oI (fun r τ => IX τ.1 ∧ Fr [58, 59, 60] [(40, 0), (41, 0), (42, 0)] σ τ ∧ r.toInt = lsA a.toInt n.toInt)) := by
  refine Mt_intro (by decide +kernel) (by simp [lg_sl, Value.category]) (fun E C X => ?_)
  show WP E ad 0 [some (.ref (ad 0)), some (.int a), some (.int n)] [] σ
  refine s_iload_n C dX9_list_0 rfl ?_
  refine s_callSI (st := []) C (c_X9_isList l ad σ a ) cv_X9_303 rfl rfl ⟨by decide, by decide⟩ (Nat.le_of_ble_eq_true rfl) dX9_list_1 ?_
  intro r1 τ2 h3
  obtain ⟨eh3, h3⟩ := h3; replace eh3 := eh3.symm; subst eh3
  refine s_if_ne (tgt := 9) C dX9_list_4 (by decide) (fun q4 => ?_) (fun q4 => ?_)
  · refine s_iload_n C dX9_list_9 rfl ?_
    refine s_bipush C dX9_list_10 (by decide) (fun z5 tz5 => ?_)
    refine s_icmp_le (tgt := 18) C dX9_list_12 (by decide) (fun q6 => ?_) (fun q6 => ?_)
    · refine s_iload_n C dX9_list_18 rfl ?_
      refine s_iconst C dX9_list_19 (by decide) (fun z7 tz7 => ?_)
      refine s_icmp_ge (tgt := 26) C dX9_list_20 (by decide) (fun q8 => ?_) (fun q8 => ?_)
      · obtain hc9 | hc9 | hc9 : a.toInt = 0 ∨ a.toInt = 1 ∨ a.toInt = 2 := by omega
        · have hnhc9 : a.toNatClampNeg = 0 := by unfold Int32.toNatClampNeg; omega
          refine s_aload_n C dX9_list_26 rfl ?_
          refine s_getr (k := 5) (j := 30) C y0 fw_X9_38 rfl dX9_list_27 ?_
          refine s_iload_n C dX9_list_30 rfl ?_
          refine s_aald (kd := 2) C y30 ⟨_, rfl⟩ (by omega) dX9_list_31 ?_
          rw [show a.toNatClampNeg = 0 by unfold Int32.toNatClampNeg; omega]
          refine s_iload_n C dX9_list_32 rfl ?_
          refine s_callVV (st := []) C (c_X3_resize_0 l ad σ n) cv_X9_306 y40 rfl rfl rfl ⟨by decide, by decide⟩ (Nat.le_of_ble_eq_true rfl) dX9_list_33 ?_
          intro τ11 h12
          obtain ⟨LLh12, eh12⟩ := h12; subst eh12
          refine s_iconst C dX9_list_36 (by decide) (fun z13 tz13 => ?_)
          exact s_iret C X dX9_list_37 ⟨⟨hX.1, hX.2.1, hX.2.2.1, hX.2.2.2.1, hX.2.2.2.2.1, hX.2.2.2.2.2.1, hX.2.2.2.2.2.2.1, hX.2.2.2.2.2.2.2.1, (by show Int32.toInt n ≤ 20; omega), hX.2.2.2.2.2.2.2.2.2.1, hX.2.2.2.2.2.2.2.2.2.2.1, hX.2.2.2.2.2.2.2.2.2.2.2.1, hX.2.2.2.2.2.2.2.2.2.2.2.2.1, hX.2.2.2.2.2.2.2.2.2.2.2.2.2⟩, (Fr.sQ (Fr.sV Fr.rf (Or.inr (by decide))) (by decide)), by unfold lsA; split <;> (try split) <;> (try split) <;> omega⟩
        · have hnhc9 : a.toNatClampNeg = 1 := by unfold Int32.toNatClampNeg; omega
          refine s_aload_n C dX9_list_26 rfl ?_
          refine s_getr (k := 5) (j := 30) C y0 fw_X9_38 rfl dX9_list_27 ?_
          refine s_iload_n C dX9_list_30 rfl ?_
          refine s_aald (kd := 2) C y30 ⟨_, rfl⟩ (by omega) dX9_list_31 ?_
          rw [show a.toNatClampNeg = 1 by unfold Int32.toNatClampNeg; omega]
          refine s_iload_n C dX9_list_32 rfl ?_
          refine s_callVV (st := []) C (c_X3_resize_1 l ad σ n) cv_X9_306 y41 rfl rfl rfl ⟨by decide, by decide⟩ (Nat.le_of_ble_eq_true rfl) dX9_list_33 ?_
          intro τ15 h16
          obtain ⟨LLh16, eh16⟩ := h16; subst eh16
          refine s_iconst C dX9_list_36 (by decide) (fun z17 tz17 => ?_)
          exact s_iret C X dX9_list_37 ⟨⟨hX.1, hX.2.1, hX.2.2.1, hX.2.2.2.1, hX.2.2.2.2.1, hX.2.2.2.2.2.1, hX.2.2.2.2.2.2.1, hX.2.2.2.2.2.2.2.1, hX.2.2.2.2.2.2.2.2.1, (by show Int32.toInt n ≤ 20; omega), hX.2.2.2.2.2.2.2.2.2.2.1, hX.2.2.2.2.2.2.2.2.2.2.2.1, hX.2.2.2.2.2.2.2.2.2.2.2.2.1, hX.2.2.2.2.2.2.2.2.2.2.2.2.2⟩, (Fr.sQ (Fr.sV Fr.rf (Or.inr (by decide))) (by decide)), by unfold lsA; split <;> (try split) <;> (try split) <;> omega⟩
        · have hnhc9 : a.toNatClampNeg = 2 := by unfold Int32.toNatClampNeg; omega
          refine s_aload_n C dX9_list_26 rfl ?_
          refine s_getr (k := 5) (j := 30) C y0 fw_X9_38 rfl dX9_list_27 ?_
          refine s_iload_n C dX9_list_30 rfl ?_
          refine s_aald (kd := 2) C y30 ⟨_, rfl⟩ (by omega) dX9_list_31 ?_
          rw [show a.toNatClampNeg = 2 by unfold Int32.toNatClampNeg; omega]
          refine s_iload_n C dX9_list_32 rfl ?_
          refine s_callVV (st := []) C (c_X3_resize_2 l ad σ n) cv_X9_306 y42 rfl rfl rfl ⟨by decide, by decide⟩ (Nat.le_of_ble_eq_true rfl) dX9_list_33 ?_
          intro τ19 h20
          obtain ⟨LLh20, eh20⟩ := h20; subst eh20
          refine s_iconst C dX9_list_36 (by decide) (fun z21 tz21 => ?_)
          exact s_iret C X dX9_list_37 ⟨⟨hX.1, hX.2.1, hX.2.2.1, hX.2.2.2.1, hX.2.2.2.2.1, hX.2.2.2.2.2.1, hX.2.2.2.2.2.2.1, hX.2.2.2.2.2.2.2.1, hX.2.2.2.2.2.2.2.2.1, hX.2.2.2.2.2.2.2.2.2.1, (by show Int32.toInt n ≤ 20; omega), hX.2.2.2.2.2.2.2.2.2.2.2.1, hX.2.2.2.2.2.2.2.2.2.2.2.2.1, hX.2.2.2.2.2.2.2.2.2.2.2.2.2⟩, (Fr.sQ (Fr.sV Fr.rf (Or.inr (by decide))) (by decide)), by unfold lsA; split <;> (try split) <;> (try split) <;> omega⟩
      · refine s_bipush C dX9_list_23 (by decide) (fun z22 tz22 => ?_)
        exact s_iret C X dX9_list_25 ⟨hX, Fr.rf, by unfold lsA; split <;> (try split) <;> (try split) <;> omega⟩
    · refine s_bipush C dX9_list_15 (by decide) (fun z23 tz23 => ?_)
      exact s_iret C X dX9_list_17 ⟨hX, Fr.rf, by unfold lsA; split <;> (try split) <;> (try split) <;> omega⟩
  · refine s_iconst C dX9_list_7 (by decide) (fun z24 tz24 => ?_)
    exact s_iret C X dX9_list_8 ⟨hX, Fr.rf, by unfold lsA; split <;> (try split) <;> (try split) <;> omega⟩
set_option maxRecDepth 100000 in
theorem c_X9_feed (l : Launch) (ad : Nat → Nat) (σ : Sg) (c : Int32) (hX : IX σ.1)  : Mt l yX9_feed cX9_feed 2 (some .int) 1 ad σ [.ref (ad 0), .int c] (oI (fun r τ => IX τ.1 ∧ Fr [67] [(66, 0)] σ τ ∧ ((¬ (32 ≤ c.toInt ∧ c.toInt ≤ 126) ∧ r.toInt = -2 ∧ τ.1 66 0 = σ.1 66 0) ∨ ((32 ≤ c.toInt ∧ c.toInt ≤ 126) ∧ 60 ≤ (σ.1 66 0).toInt ∧ r.toInt = -4 ∧ τ.1 66 0 = σ.1 66 0) ∨ ((32 ≤ c.toInt ∧ c.toInt ≤ 126) ∧ (σ.1 66 0).toInt < 60 ∧ r.toInt = (σ.1 66 0).toInt + 1 ∧ (τ.1 66 0).toInt = (σ.1 66 0).toInt + 1)))) := by
  have htl := hX.tl
  refine Mt_intro (by decide +kernel) (by simp [lg_sl, Value.category]) (fun E C X => ?_)
  show WP E ad 0 [some (.ref (ad 0)), some (.int c)] [] σ
  refine s_iload_n C dX9_feed_0 rfl ?_
  refine s_bipush C dX9_feed_1 (by decide) (fun z1 tz1 => ?_)
  refine s_icmp_lt (tgt := 12) C dX9_feed_3 (by decide) (fun q2 => ?_) (fun q2 => ?_)
  · refine s_bipush C dX9_feed_12 (by decide) (fun z3 tz3 => ?_)
    exact s_iret C X dX9_feed_14 ⟨hX, Fr.rf, (by first | exact Or.inl ⟨by omega, by omega, rfl⟩ | exact Or.inr (Or.inl ⟨by omega, by omega, by omega, rfl⟩))⟩
  · refine s_iload_n C dX9_feed_6 rfl ?_
    refine s_bipush C dX9_feed_7 (by decide) (fun z4 tz4 => ?_)
    refine s_icmp_le (tgt := 15) C dX9_feed_9 (by decide) (fun q5 => ?_) (fun q5 => ?_)
    · refine s_aload_n C dX9_feed_15 rfl ?_
      refine s_getr (k := 7) (j := 66) C y0 fw_X9_45 rfl dX9_feed_16 ?_
      refine s_get (k := 0) (x := (σ.1 66 0)) C y66 fw_X9_291 rfl rfl dX9_feed_19 ?_
      refine s_bipush C dX9_feed_22 (by decide) (fun z6 tz6 => ?_)
      refine s_icmp_lt (tgt := 30) C dX9_feed_24 (by decide) (fun q7 => ?_) (fun q7 => ?_)
      · refine s_aload_n C dX9_feed_30 rfl ?_
        refine s_getr (k := 7) (j := 66) C y0 fw_X9_45 rfl dX9_feed_31 ?_
        refine s_iload_n C dX9_feed_34 rfl ?_
        refine s_callVV (st := []) C (c_X8_append l ad σ c hX (by omega)) cv_X9_294 y66 rfl rfl rfl ⟨by decide, by decide⟩ (Nat.le_of_ble_eq_true rfl) dX9_feed_35 ?_
        intro τ9 h10
        have hXτ9 := h10.1
        have hRτ9 := h10.2.2
        refine s_aload_n C dX9_feed_38 rfl ?_
        refine s_getr (k := 7) (j := 66) C y0 fw_X9_45 rfl dX9_feed_39 ?_
        refine s_get (k := 0) (x := (τ9.1 66 0)) C y66 fw_X9_291 rfl rfl dX9_feed_42 ?_
        exact s_iret C X dX9_feed_45 ⟨hXτ9, (Fr.tr Fr.rf (Fr.mo h10.2.1 (by decide) (by decide))), Or.inr (Or.inr ⟨by omega, by omega, hRτ9, hRτ9⟩)⟩
      · refine s_bipush C dX9_feed_27 (by decide) (fun z11 tz11 => ?_)
        exact s_iret C X dX9_feed_29 ⟨hX, Fr.rf, (by first | exact Or.inl ⟨by omega, by omega, rfl⟩ | exact Or.inr (Or.inl ⟨by omega, by omega, by omega, rfl⟩))⟩
    · refine s_bipush C dX9_feed_12 (by decide) (fun z12 tz12 => ?_)
      exact s_iret C X dX9_feed_14 ⟨hX, Fr.rf, (by first | exact Or.inl ⟨by omega, by omega, rfl⟩ | exact Or.inr (Or.inl ⟨by omega, by omega, by omega, rfl⟩))⟩
set_option maxRecDepth 100000 in
theorem c_X9_wipe (l : Launch) (ad : Nat → Nat) (σ : Sg)  (hX : IX σ.1)  : Mt l yX9_wipe cX9_wipe 2 (some .int) 1 ad σ [.ref (ad 0)] (oI (fun r τ => IX τ.1 ∧ Fr [] [(66, 0), (66, 1)] σ τ ∧ r = σ.1 66 0 ∧ (τ.1 66 0).toInt = 0)) := by
  refine Mt_intro (by decide +kernel) (by simp [lg_sl, Value.category]) (fun E C X => ?_)
  show WP E ad 0 [some (.ref (ad 0)), none] [] σ
  refine s_aload_n C dX9_wipe_0 rfl ?_
  refine s_getr (k := 7) (j := 66) C y0 fw_X9_45 rfl dX9_wipe_1 ?_
  refine s_get (k := 0) (x := (σ.1 66 0)) C y66 fw_X9_291 rfl rfl dX9_wipe_4 ?_
  refine s_istore_n C dX9_wipe_7 (by decide) (Nat.le_of_ble_eq_true rfl) rfl ?_
  show WP E ad 8 [some (.ref (ad 0)), some (.int (σ.1 66 0))] [] σ
  refine s_aload_n C dX9_wipe_8 rfl ?_
  refine s_getr (k := 7) (j := 66) C y0 fw_X9_45 rfl dX9_wipe_9 ?_
  refine s_callVV (st := []) C (c_X8_clear l ad σ  hX ) cv_X9_249 y66 rfl rfl rfl ⟨by decide, by decide⟩ (Nat.le_of_ble_eq_true rfl) dX9_wipe_12 ?_
  intro τ2 h3
  have hXτ2 := h3.1
  have hRτ2 := h3.2.2
  refine s_iload_n C dX9_wipe_15 rfl ?_
  exact s_iret C X dX9_wipe_16 ⟨hXτ2, (Fr.tr Fr.rf (Fr.mo h3.2.1 (by decide) (by decide))), rfl, hRτ2.1⟩
set_option maxRecDepth 100000 in
theorem c_X9_start (l : Launch) (ad : Nat → Nat) (σ : Sg) (p : Int32) (v : Int32) (hX : IX σ.1)  : Mt l yX9_start cX9_start 4 (some .int) 1 ad σ [.ref (ad 0), .int p, .int v] (oI (fun r τ => IX τ.1 ∧ Fr [2] [(37, 3), (38, 3), (39, 3)] σ τ ∧ ((¬ (0 ≤ p.toInt ∧ p.toInt < (σ.1 1 0).toInt) ∧ r.toInt = -1 ∧ τ.1 2 = σ.1 2) ∨ ((0 ≤ p.toInt ∧ p.toInt < (σ.1 1 0).toInt) ∧ ¬ (-99 ≤ v.toInt ∧ v.toInt ≤ 99) ∧ r.toInt = -2 ∧ τ.1 2 = σ.1 2) ∨ ((0 ≤ p.toInt ∧ p.toInt < (σ.1 1 0).toInt) ∧ (-99 ≤ v.toInt ∧ v.toInt ≤ 99) ∧ r = σ.1 2 p.toNatClampNeg + 100 ∧ τ.1 2 = upd (σ.1 2) p.toNatClampNeg v)))) := by
  have hpr := hX.pr
  have htot := hX.tot
  have hms := hX.ms
  refine Mt_intro (by decide +kernel) (by simp [lg_sl, Value.category]) (fun E C X => ?_)
  show WP E ad 0 [some (.ref (ad 0)), some (.int p), some (.int v), none] [] σ
  refine s_aload_n C dX9_start_0 rfl ?_
  refine s_getr (k := 0) (j := 1) C y0 fw_X9_12 rfl dX9_start_1 ?_
  refine s_iload_n C dX9_start_4 rfl ?_
  refine s_callVI (st := []) C (c_X5_hasProcess l ad σ p ) cv_X9_97 y1 rfl rfl rfl ⟨by decide, by decide⟩ (Nat.le_of_ble_eq_true rfl) dX9_start_5 ?_
  intro r1 τ2 h3
  obtain ⟨eh3, h3⟩ := h3; replace eh3 := eh3.symm; subst eh3
  refine s_if_ne (tgt := 13) C dX9_start_8 (by decide) (fun q4 => ?_) (fun q4 => ?_)
  · refine s_iload_n C dX9_start_13 rfl ?_
    refine s_callSI (st := []) C (c_X9_isValue l ad σ v ) cv_X9_101 rfl rfl ⟨by decide, by decide⟩ (Nat.le_of_ble_eq_true rfl) dX9_start_14 ?_
    intro r5 τ6 h7
    obtain ⟨eh7, h7⟩ := h7; replace eh7 := eh7.symm; subst eh7
    refine s_if_ne (tgt := 23) C dX9_start_17 (by decide) (fun q8 => ?_) (fun q8 => ?_)
    · refine s_aload_n C dX9_start_23 rfl ?_
      refine s_getr (k := 0) (j := 1) C y0 fw_X9_12 rfl dX9_start_24 ?_
      refine s_getr (k := 3) (j := 2) C y1 fw_X9_104 rfl dX9_start_27 ?_
      refine s_iload_n C dX9_start_30 rfl ?_
      refine s_iald (r := (σ.1 2 p.toNatClampNeg)) C y2 (by omega) rfl dX9_start_31 ?_
      refine s_istore_n C dX9_start_32 (by decide) (Nat.le_of_ble_eq_true rfl) rfl ?_
      show WP E ad 33 [some (.ref (ad 0)), some (.int p), some (.int v), some (.int (σ.1 2 p.toNatClampNeg))] [] σ
      refine s_aload_n C dX9_start_33 rfl ?_
      refine s_getr (k := 0) (j := 1) C y0 fw_X9_12 rfl dX9_start_34 ?_
      refine s_getr (k := 3) (j := 2) C y1 fw_X9_104 rfl dX9_start_37 ?_
      refine s_iload_n C dX9_start_40 rfl ?_
      refine s_iload_n C dX9_start_41 rfl ?_
      refine s_iast C y2 (by omega) dX9_start_42 ?_
      refine s_aload_n C dX9_start_43 rfl ?_
      refine s_callVV (st := []) C (c_X9_noteValues l ad (sV σ 2 p.toNatClampNeg v)  hX ) cv_X9_108 y0 rfl rfl rfl ⟨by decide, by decide⟩ (Nat.le_of_ble_eq_true rfl) dX9_start_44 ?_
      intro τ10 h11
      have hXτ10 := h11.1
      have hRτ10 := h11.2.2
      refine s_iload_n C dX9_start_47 rfl ?_
      refine s_bipush C dX9_start_48 (by decide) (fun z12 tz12 => ?_)
      skip
      refine s_iaddU C dX9_start_50 (fun z13 tz13 => ?_)
      exact s_iret C X dX9_start_51 ⟨hXτ10, (Fr.tr (Fr.sV Fr.rf (Or.inl (by decide))) (Fr.mo h11.2.1 (by decide) (by decide))), Or.inr (Or.inr ⟨by omega, by omega, by rw [tz13, ceq (n := 100) tz12], (h11.2.1).a 2 (by decide) (by decide)⟩)⟩
    · refine s_bipush C dX9_start_20 (by decide) (fun z14 tz14 => ?_)
      exact s_iret C X dX9_start_22 ⟨hX, Fr.rf, (by first | exact Or.inl ⟨by omega, by omega, rfl⟩ | exact Or.inr (Or.inl ⟨by omega, by omega, by omega, rfl⟩))⟩
  · refine s_iconst C dX9_start_11 (by decide) (fun z15 tz15 => ?_)
    exact s_iret C X dX9_start_12 ⟨hX, Fr.rf, (by first | exact Or.inl ⟨by omega, by omega, rfl⟩ | exact Or.inr (Or.inl ⟨by omega, by omega, by omega, rfl⟩))⟩
set_option maxRecDepth 100000 in
theorem c_X9_processes (l : Launch) (ad : Nat → Nat) (σ : Sg) (n : Int32) (hX : IX σ.1)  : Mt l yX9_processes cX9_processes 4 (some .int) 2 ad σ [.ref (ad 0), .int n] (oI (fun r τ => IX τ.1 ∧ Fr [2, 3] [(1, 0), (1, 1), (1, 2), (31, 0), (32, 0), (33, 0), (61, 1), (37, 3), (38, 3), (39, 3)] σ τ ∧ (((1 ≤ n.toInt ∧ n.toInt ≤ 4) ∧ r = σ.1 1 0 ∧ τ.1 1 0 = n ∧ ∀ j, (τ.1 2 j).toInt = 0) ∨ (¬ (1 ≤ n.toInt ∧ n.toInt ≤ 4) ∧ r.toInt = -2 ∧ τ.1 1 0 = σ.1 1 0 ∧ τ.1 2 = σ.1 2)))) := by
  refine Mt_intro (by decide +kernel) (by simp [lg_sl, Value.category]) (fun E C X => ?_)
  show WP E ad 0 [some (.ref (ad 0)), some (.int n), none, none] [] σ
  refine s_iload_n C dX9_processes_0 rfl ?_
  refine s_iconst C dX9_processes_1 (by decide) (fun z1 tz1 => ?_)
  refine s_icmp_lt (tgt := 10) C dX9_processes_2 (by decide) (fun q2 => ?_) (fun q2 => ?_)
  · refine s_bipush C dX9_processes_10 (by decide) (fun z3 tz3 => ?_)
    exact s_iret C X dX9_processes_12 ⟨hX, Fr.rf, Or.inr ⟨by omega, by omega, rfl, rfl⟩⟩
  · refine s_iload_n C dX9_processes_5 rfl ?_
    refine s_iconst C dX9_processes_6 (by decide) (fun z4 tz4 => ?_)
    refine s_icmp_le (tgt := 13) C dX9_processes_7 (by decide) (fun q5 => ?_) (fun q5 => ?_)
    · refine s_aload_n C dX9_processes_13 rfl ?_
      refine s_getr (k := 0) (j := 1) C y0 fw_X9_12 rfl dX9_processes_14 ?_
      refine s_get (k := 0) (x := (σ.1 1 0)) C y1 fw_X9_83 rfl rfl dX9_processes_17 ?_
      refine s_istore_n C dX9_processes_20 (by decide) (Nat.le_of_ble_eq_true rfl) rfl ?_
      show WP E ad 21 [some (.ref (ad 0)), some (.int n), some (.int (σ.1 1 0)), none] [] σ
      refine s_aload_n C dX9_processes_21 rfl ?_
      refine s_getr (k := 0) (j := 1) C y0 fw_X9_12 rfl dX9_processes_22 ?_
      refine s_iload_n C dX9_processes_25 rfl ?_
      refine s_callVV (st := []) C (c_X5_beginWith l ad σ n hX (by omega)) cv_X9_87 y1 rfl rfl rfl ⟨by decide, by decide⟩ (Nat.le_of_ble_eq_true rfl) dX9_processes_26 ?_
      intro τ7 h8
      have hXτ7 := h8.1
      have hRτ7 := h8.2.2
      refine s_iconst C dX9_processes_29 (by decide) (fun z9 tz9 => ?_)
      refine s_istore_n C dX9_processes_30 (by decide) (Nat.le_of_ble_eq_true rfl) rfl ?_
      show WP E ad 31 [some (.ref (ad 0)), some (.int n), some (.int (σ.1 1 0)), some (.int z9)] [] τ7
      refine s_iload_n C dX9_processes_31 rfl ?_
      refine s_iconst C dX9_processes_32 (by decide) (fun z10 tz10 => ?_)
      refine s_icmp_ge (tgt := 52) C dX9_processes_33 (by decide) (fun q11 => ?_) (fun q11 => ?_)
      · omega
      · refine s_aload_n C dX9_processes_36 rfl ?_
        refine s_getr (k := 2) (j := 27) C y0 fw_X9_23 rfl dX9_processes_37 ?_
        refine s_iload_n C dX9_processes_40 rfl ?_
        refine s_aald (kd := 0) C y27 ⟨_, rfl⟩ (by omega) dX9_processes_41 ?_
        rw [show z9.toNatClampNeg = 0 by unfold Int32.toNatClampNeg; omega]
        refine s_iconst C dX9_processes_42 (by decide) (fun z12 tz12 => ?_)
        refine s_putz (k := 0) C y31 fw_X9_91 fp_0_0 rfl (by omega) dX9_processes_43 ?_
        refine s_iinc C dX9_processes_46 rfl (by decide) rfl (by decide) (by omega) (fun z13 tz13 => ?_)
        show WP E ad 49 [some (.ref (ad 0)), some (.int n), some (.int (σ.1 1 0)), some (.int z13)] [] (sV τ7 31 0 z12)
        refine s_goto (tgt := 31) C dX9_processes_49 (by decide) ?_
        refine s_iload_n C dX9_processes_31 rfl ?_
        refine s_iconst C dX9_processes_32 (by decide) (fun z14 tz14 => ?_)
        refine s_icmp_ge (tgt := 52) C dX9_processes_33 (by decide) (fun q15 => ?_) (fun q15 => ?_)
        · omega
        · refine s_aload_n C dX9_processes_36 rfl ?_
          refine s_getr (k := 2) (j := 27) C y0 fw_X9_23 rfl dX9_processes_37 ?_
          refine s_iload_n C dX9_processes_40 rfl ?_
          refine s_aald (kd := 0) C y27 ⟨_, rfl⟩ (by omega) dX9_processes_41 ?_
          rw [show z13.toNatClampNeg = 1 by unfold Int32.toNatClampNeg; omega]
          refine s_iconst C dX9_processes_42 (by decide) (fun z16 tz16 => ?_)
          refine s_putz (k := 0) C y32 fw_X9_91 fp_0_0 rfl (by omega) dX9_processes_43 ?_
          refine s_iinc C dX9_processes_46 rfl (by decide) rfl (by decide) (by omega) (fun z17 tz17 => ?_)
          show WP E ad 49 [some (.ref (ad 0)), some (.int n), some (.int (σ.1 1 0)), some (.int z17)] [] (sV (sV τ7 31 0 z12) 32 0 z16)
          refine s_goto (tgt := 31) C dX9_processes_49 (by decide) ?_
          refine s_iload_n C dX9_processes_31 rfl ?_
          refine s_iconst C dX9_processes_32 (by decide) (fun z18 tz18 => ?_)
          refine s_icmp_ge (tgt := 52) C dX9_processes_33 (by decide) (fun q19 => ?_) (fun q19 => ?_)
          · omega
          · refine s_aload_n C dX9_processes_36 rfl ?_
            refine s_getr (k := 2) (j := 27) C y0 fw_X9_23 rfl dX9_processes_37 ?_
            refine s_iload_n C dX9_processes_40 rfl ?_
            refine s_aald (kd := 0) C y27 ⟨_, rfl⟩ (by omega) dX9_processes_41 ?_
            rw [show z17.toNatClampNeg = 2 by unfold Int32.toNatClampNeg; omega]
            refine s_iconst C dX9_processes_42 (by decide) (fun z20 tz20 => ?_)
            refine s_putz (k := 0) C y33 fw_X9_91 fp_0_0 rfl (by omega) dX9_processes_43 ?_
            refine s_iinc C dX9_processes_46 rfl (by decide) rfl (by decide) (by omega) (fun z21 tz21 => ?_)
            show WP E ad 49 [some (.ref (ad 0)), some (.int n), some (.int (σ.1 1 0)), some (.int z21)] [] (sV (sV (sV τ7 31 0 z12) 32 0 z16) 33 0 z20)
            refine s_goto (tgt := 31) C dX9_processes_49 (by decide) ?_
            refine s_iload_n C dX9_processes_31 rfl ?_
            refine s_iconst C dX9_processes_32 (by decide) (fun z22 tz22 => ?_)
            refine s_icmp_ge (tgt := 52) C dX9_processes_33 (by decide) (fun q23 => ?_) (fun q23 => ?_)
            · refine s_aload_n C dX9_processes_52 rfl ?_
              refine s_callVV (st := []) C (c_X9_noteChange l ad (sV (sV (sV τ7 31 0 z12) 32 0 z16) 33 0 z20)  (show IX (sV (sV (sV τ7 31 0 z12) 32 0 z16) 33 0 z20).1 from ⟨hXτ7.1, hXτ7.2.1, ⟨Or.inl (by show Int32.toInt z12 = 0; omega), hXτ7.C0.2⟩, ⟨Or.inl (by show Int32.toInt z16 = 0; omega), hXτ7.C1.2⟩, ⟨Or.inl (by show Int32.toInt z20 = 0; omega), hXτ7.C2.2⟩, hXτ7.2.2.2.2.2.1, hXτ7.2.2.2.2.2.2.1, hXτ7.2.2.2.2.2.2.2.1, hXτ7.2.2.2.2.2.2.2.2.1, hXτ7.2.2.2.2.2.2.2.2.2.1, hXτ7.2.2.2.2.2.2.2.2.2.2.1, hXτ7.2.2.2.2.2.2.2.2.2.2.2.1, hXτ7.2.2.2.2.2.2.2.2.2.2.2.2.1, hXτ7.2.2.2.2.2.2.2.2.2.2.2.2.2⟩) ) cv_X9_94 y0 rfl rfl rfl ⟨by decide, by decide⟩ (Nat.le_of_ble_eq_true rfl) dX9_processes_53 ?_
              intro τ25 h26
              have hXτ25 := h26.1
              have hRτ25 := h26.2.2
              refine s_iload_n C dX9_processes_56 rfl ?_
              exact s_iret C X dX9_processes_57 ⟨hXτ25, (Fr.tr (Fr.sV (Fr.sV (Fr.sV (Fr.tr Fr.rf (Fr.mo h8.2.1 (by decide) (by decide))) (Or.inr (by decide))) (Or.inr (by decide))) (Or.inr (by decide))) (Fr.mo h26.2.1 (by decide) (by decide))), Or.inl ⟨by omega, rfl, ((h26.2.1).f 1 0 (by decide) (by decide)).trans hRτ7.1, fun j => (congrArg (fun f => (f j).toInt) ((h26.2.1).a 2 (by decide) (by decide))).trans (hRτ7.2 j)⟩⟩
            · omega
    · refine s_bipush C dX9_processes_10 (by decide) (fun z27 tz27 => ?_)
      exact s_iret C X dX9_processes_12 ⟨hX, Fr.rf, Or.inr ⟨by omega, by omega, rfl, rfl⟩⟩
set_option maxRecDepth 100000 in
theorem c_X9_back (l : Launch) (ad : Nat → Nat) (σ : Sg)  (hX : IX σ.1)  : Mt l yX9_back cX9_back 1 (some .int) 2 ad σ [.ref (ad 0)] (oI (fun r τ => IX τ.1 ∧ Fr [3, 12, 13] [(1, 1), (1, 2), (61, 1), (37, 3), (38, 3), (39, 3)] σ τ ∧ True)) := by
  have hpr := hX.pr
  have htot := hX.tot
  have hms := hX.ms
  refine Mt_intro (by decide +kernel) (by simp [lg_sl, Value.category]) (fun E C X => ?_)
  show WP E ad 0 [some (.ref (ad 0))] [] σ
  refine s_aload_n C dX9_back_0 rfl ?_
  refine s_getr (k := 0) (j := 1) C y0 fw_X9_12 rfl dX9_back_1 ?_
  refine s_get (k := 1) (x := (σ.1 1 1)) C y1 fw_X9_138 rfl rfl dX9_back_4 ?_
  refine s_if_ne (tgt := 13) C dX9_back_7 (by decide) (fun q1 => ?_) (fun q1 => ?_)
  · refine s_aload_n C dX9_back_13 rfl ?_
    refine s_getr (k := 0) (j := 1) C y0 fw_X9_12 rfl dX9_back_14 ?_
    refine s_callVV (st := []) C (c_X5_removeLast l ad σ  hX (by omega)) cv_X9_141 y1 rfl rfl rfl ⟨by decide, by decide⟩ (Nat.le_of_ble_eq_true rfl) dX9_back_17 ?_
    intro τ3 h4
    have hXτ3 := h4.1
    have hRτ3 := h4.2.2
    refine s_aload_n C dX9_back_20 rfl ?_
    refine s_callVV (st := []) C (c_X9_noteChange l ad τ3  hXτ3 ) cv_X9_94 y0 rfl rfl rfl ⟨by decide, by decide⟩ (Nat.le_of_ble_eq_true rfl) dX9_back_21 ?_
    intro τ6 h7
    have hXτ6 := h7.1
    have hRτ6 := h7.2.2
    refine s_aload_n C dX9_back_24 rfl ?_
    refine s_getr (k := 0) (j := 1) C y0 fw_X9_12 rfl dX9_back_25 ?_
    refine s_get (k := 1) (x := (τ6.1 1 1)) C y1 fw_X9_138 rfl rfl dX9_back_28 ?_
    exact s_iret C X dX9_back_31 ⟨hXτ6, (Fr.tr (Fr.tr Fr.rf (Fr.mo h4.2.1 (by decide) (by decide))) (Fr.mo h7.2.1 (by decide) (by decide))), trivial⟩
  · refine s_bipush C dX9_back_10 (by decide) (fun z8 tz8 => ?_)
    exact s_iret C X dX9_back_12 ⟨hX, Fr.rf, trivial⟩
set_option maxRecDepth 100000 in
theorem c_X9_step (l : Launch) (ad : Nat → Nat) (σ : Sg) (p : Int32) (v : Int32) (hX : IX σ.1)  : Mt l yX9_step cX9_step 3 (some .int) 3 ad σ [.ref (ad 0), .int p, .int v] (oI (fun r τ => IX τ.1 ∧ Fr [3, 4, 5, 6, 7, 8, 9, 10, 11, 12, 13] [(1, 1), (1, 2), (61, 1), (37, 3), (38, 3), (39, 3)] σ τ ∧ True)) := by
  have hpr := hX.pr
  have htot := hX.tot
  have hms := hX.ms
  have hvp := hX.ev p.toNatClampNeg
  refine Mt_intro (by decide +kernel) (by simp [lg_sl, Value.category]) (fun E C X => ?_)
  show WP E ad 0 [some (.ref (ad 0)), some (.int p), some (.int v)] [] σ
  refine s_aload_n C dX9_step_0 rfl ?_
  refine s_getr (k := 0) (j := 1) C y0 fw_X9_12 rfl dX9_step_1 ?_
  refine s_iload_n C dX9_step_4 rfl ?_
  refine s_callVI (st := []) C (c_X5_hasProcess l ad σ p ) cv_X9_97 y1 rfl rfl rfl ⟨by decide, by decide⟩ (Nat.le_of_ble_eq_true rfl) dX9_step_5 ?_
  intro r1 τ2 h3
  obtain ⟨eh3, h3⟩ := h3; replace eh3 := eh3.symm; subst eh3
  refine s_if_ne (tgt := 13) C dX9_step_8 (by decide) (fun q4 => ?_) (fun q4 => ?_)
  · refine s_iload_n C dX9_step_13 rfl ?_
    refine s_callSI (st := []) C (c_X9_isValue l ad σ v ) cv_X9_101 rfl rfl ⟨by decide, by decide⟩ (Nat.le_of_ble_eq_true rfl) dX9_step_14 ?_
    intro r5 τ6 h7
    obtain ⟨eh7, h7⟩ := h7; replace eh7 := eh7.symm; subst eh7
    refine s_if_ne (tgt := 23) C dX9_step_17 (by decide) (fun q8 => ?_) (fun q8 => ?_)
    · refine s_aload_n C dX9_step_23 rfl ?_
      refine s_getr (k := 0) (j := 1) C y0 fw_X9_12 rfl dX9_step_24 ?_
      refine s_iload_n C dX9_step_27 rfl ?_
      refine s_callVI (st := []) C (c_X5_isFullAt l ad σ p (by omega)) cv_X9_111 y1 rfl rfl rfl ⟨by decide, by decide⟩ (Nat.le_of_ble_eq_true rfl) dX9_step_28 ?_
      intro r9 τ10 h11
      obtain ⟨eh11, h11⟩ := h11; replace eh11 := eh11.symm; subst eh11
      refine s_if_eq (tgt := 37) C dX9_step_31 (by decide) (fun q12 => ?_) (fun q12 => ?_)
      · refine s_aload_n C dX9_step_37 rfl ?_
        refine s_getr (k := 0) (j := 1) C y0 fw_X9_12 rfl dX9_step_38 ?_
        refine s_iload_n C dX9_step_41 rfl ?_
        refine s_iconst C dX9_step_42 (by decide) (fun z13 tz13 => ?_)
        refine s_bipush C dX9_step_43 (by decide) (fun z14 tz14 => ?_)
        refine s_iload_n C dX9_step_45 rfl ?_
        refine s_callVV (st := []) C (c_X5_append l ad σ p z13 z14 v (by exact hpr) (by omega) (by show 0 ≤ Int32.toInt (σ.1 3 p.toNatClampNeg) ∧ Int32.toInt (σ.1 3 p.toNatClampNeg) < 5; omega) (by show 0 ≤ Int32.toInt (σ.1 1 1) ∧ Int32.toInt (σ.1 1 1) < 20; have := rc_lt hX.RU (p := p) (by omega) (by omega); omega) (fun h => by omega)) cv_X9_114 y1 rfl rfl rfl ⟨by decide, by decide⟩ (Nat.le_of_ble_eq_true rfl) dX9_step_46 ?_
        intro τ16 h17
        obtain ⟨hA, kk, c1, c3, c4, c5, c7, c8⟩ := h17
        have hXτ16 : IX τ16.1 := ix_grow (υ := τ16) hX (p := p) (by omega) (by omega) (by omega) (hA.mo (by decide) (by decide)) c1 c3 c4 c5 c7 c8 (fun h => by omega) (by rw [if_neg (by omega), hA.f 1 2 (by decide) (by decide)]; omega) (by rw [hA.f 1 2 (by decide) (by decide)]; omega) (by rw [hA.a 10 (by decide) (by decide)]; exact hX.sn) (by rw [hA.a 12 (by decide) (by decide)]; exact hX.tk) (fun j _ => by rw [hA.a 10 (by decide) (by decide), hA.a 11 (by decide) (by decide)]; exact ⟨rfl, rfl⟩) (fun h => by omega)
        refine s_aload_n C dX9_step_49 rfl ?_
        refine s_callVV (st := []) C (c_X9_noteChange l ad τ16  hXτ16 ) cv_X9_94 y0 rfl rfl rfl ⟨by decide, by decide⟩ (Nat.le_of_ble_eq_true rfl) dX9_step_50 ?_
        intro τ19 h20
        have hXτ19 := h20.1
        have hRτ19 := h20.2.2
        refine s_aload_n C dX9_step_53 rfl ?_
        refine s_getr (k := 0) (j := 1) C y0 fw_X9_12 rfl dX9_step_54 ?_
        refine s_getr (k := 4) (j := 3) C y1 fw_X9_118 rfl dX9_step_57 ?_
        refine s_iload_n C dX9_step_60 rfl ?_
        refine s_iald (r := (τ19.1 3 p.toNatClampNeg)) C y3 (by omega) rfl dX9_step_61 ?_
        exact s_iret C X dX9_step_62 ⟨hXτ19, (Fr.tr (Fr.tr Fr.rf (Fr.mo hA (by decide) (by decide))) (Fr.mo h20.2.1 (by decide) (by decide))), trivial⟩
      · refine s_bipush C dX9_step_34 (by decide) (fun z21 tz21 => ?_)
        exact s_iret C X dX9_step_36 ⟨hX, Fr.rf, trivial⟩
    · refine s_bipush C dX9_step_20 (by decide) (fun z22 tz22 => ?_)
      exact s_iret C X dX9_step_22 ⟨hX, Fr.rf, trivial⟩
  · refine s_iconst C dX9_step_11 (by decide) (fun z23 tz23 => ?_)
    exact s_iret C X dX9_step_12 ⟨hX, Fr.rf, trivial⟩
set_option maxRecDepth 100000 in
theorem c_X9_send (l : Launch) (ad : Nat → Nat) (σ : Sg) (p : Int32) (v : Int32) (hX : IX σ.1)  : Mt l yX9_send cX9_send 4 (some .int) 3 ad σ [.ref (ad 0), .int p, .int v] (oI (fun r τ => IX τ.1 ∧ Fr [3, 4, 5, 6, 7, 8, 9, 10, 11, 12, 13] [(1, 1), (1, 2), (61, 1), (37, 3), (38, 3), (39, 3)] σ τ ∧ True)) := by
  have hpr := hX.pr
  have htot := hX.tot
  have hms := hX.ms
  have hvp := hX.ev p.toNatClampNeg
  refine Mt_intro (by decide +kernel) (by simp [lg_sl, Value.category]) (fun E C X => ?_)
  show WP E ad 0 [some (.ref (ad 0)), some (.int p), some (.int v), none] [] σ
  refine s_aload_n C dX9_send_0 rfl ?_
  refine s_getr (k := 0) (j := 1) C y0 fw_X9_12 rfl dX9_send_1 ?_
  refine s_iload_n C dX9_send_4 rfl ?_
  refine s_callVI (st := []) C (c_X5_hasProcess l ad σ p ) cv_X9_97 y1 rfl rfl rfl ⟨by decide, by decide⟩ (Nat.le_of_ble_eq_true rfl) dX9_send_5 ?_
  intro r1 τ2 h3
  obtain ⟨eh3, h3⟩ := h3; replace eh3 := eh3.symm; subst eh3
  refine s_if_ne (tgt := 13) C dX9_send_8 (by decide) (fun q4 => ?_) (fun q4 => ?_)
  · refine s_iload_n C dX9_send_13 rfl ?_
    refine s_callSI (st := []) C (c_X9_isValue l ad σ v ) cv_X9_101 rfl rfl ⟨by decide, by decide⟩ (Nat.le_of_ble_eq_true rfl) dX9_send_14 ?_
    intro r5 τ6 h7
    obtain ⟨eh7, h7⟩ := h7; replace eh7 := eh7.symm; subst eh7
    refine s_if_ne (tgt := 23) C dX9_send_17 (by decide) (fun q8 => ?_) (fun q8 => ?_)
    · refine s_aload_n C dX9_send_23 rfl ?_
      refine s_getr (k := 0) (j := 1) C y0 fw_X9_12 rfl dX9_send_24 ?_
      refine s_iload_n C dX9_send_27 rfl ?_
      refine s_callVI (st := []) C (c_X5_isFullAt l ad σ p (by omega)) cv_X9_111 y1 rfl rfl rfl ⟨by decide, by decide⟩ (Nat.le_of_ble_eq_true rfl) dX9_send_28 ?_
      intro r9 τ10 h11
      obtain ⟨eh11, h11⟩ := h11; replace eh11 := eh11.symm; subst eh11
      refine s_if_ne (tgt := 46) C dX9_send_31 (by decide) (fun q12 => ?_) (fun q12 => ?_)
      · refine s_bipush C dX9_send_46 (by decide) (fun z13 tz13 => ?_)
        exact s_iret C X dX9_send_48 ⟨hX, Fr.rf, trivial⟩
      · refine s_aload_n C dX9_send_34 rfl ?_
        refine s_getr (k := 0) (j := 1) C y0 fw_X9_12 rfl dX9_send_35 ?_
        refine s_get (k := 2) (x := (σ.1 1 2)) C y1 fw_X9_121 rfl rfl dX9_send_38 ?_
        refine s_bipush C dX9_send_41 (by decide) (fun z14 tz14 => ?_)
        refine s_icmp_lt (tgt := 49) C dX9_send_43 (by decide) (fun q15 => ?_) (fun q15 => ?_)
        · refine s_aload_n C dX9_send_49 rfl ?_
          refine s_getr (k := 0) (j := 1) C y0 fw_X9_12 rfl dX9_send_50 ?_
          refine s_iload_n C dX9_send_53 rfl ?_
          refine s_callVI (st := []) C (c_X5_openMessage l ad σ p (by omega) (by omega) (by omega)) cv_X9_124 y1 rfl rfl rfl ⟨by decide, by decide⟩ (Nat.le_of_ble_eq_true rfl) dX9_send_54 ?_
          intro r16 τ17 h18
          obtain ⟨eh18, kh18, ah18, bh18, ch18, o1, o2, o3, sh18⟩ := h18; subst sh18
          refine s_istore_n C dX9_send_57 (by decide) (Nat.le_of_ble_eq_true rfl) rfl ?_
          show WP E ad 58 [some (.ref (ad 0)), some (.int p), some (.int v), some (.int r16)] [] (sV (sV (sV (sV (sV σ 10 ((σ.1 1 2).toNatClampNeg) p) 11 ((σ.1 1 2).toNatClampNeg) kh18) 12 ((σ.1 1 2).toNatClampNeg) ah18) 13 ((σ.1 1 2).toNatClampNeg) bh18) 1 2 ch18)
          refine s_aload_n C dX9_send_58 rfl ?_
          refine s_getr (k := 0) (j := 1) C y0 fw_X9_12 rfl dX9_send_59 ?_
          refine s_iload_n C dX9_send_62 rfl ?_
          refine s_iconst C dX9_send_63 (by decide) (fun z19 tz19 => ?_)
          refine s_iload_n C dX9_send_64 rfl ?_
          refine s_iload_n C dX9_send_65 rfl ?_
          refine s_callVV (st := []) C (c_X5_append l ad (sV (sV (sV (sV (sV σ 10 ((σ.1 1 2).toNatClampNeg) p) 11 ((σ.1 1 2).toNatClampNeg) kh18) 12 ((σ.1 1 2).toNatClampNeg) ah18) 13 ((σ.1 1 2).toNatClampNeg) bh18) 1 2 ch18) p z19 r16 v (by exact hpr) (by omega) (by show 0 ≤ Int32.toInt (σ.1 3 p.toNatClampNeg) ∧ Int32.toInt (σ.1 3 p.toNatClampNeg) < 5; omega) (by show 0 ≤ Int32.toInt (σ.1 1 1) ∧ Int32.toInt (σ.1 1 1) < 20; have := rc_lt hX.RU (p := p) (by omega) (by omega); omega) (fun h => by omega)) cv_X9_114 y1 rfl rfl rfl ⟨by decide, by decide⟩ (Nat.le_of_ble_eq_true rfl) dX9_send_66 ?_
          intro τ21 h22
          obtain ⟨hA, kk, c1, c3, c4, c5, c7, c8⟩ := h22
          have c1x : kk.toInt = (σ.1 3 p.toNatClampNeg).toInt + 1 := c1
          have hXτ21 : IX τ21.1 := ix_grow (υ := τ21) hX (p := p) (by omega) (by omega) (by omega) (Fr.tr (Fr.sV (Fr.sV (Fr.sV (Fr.sV (Fr.sV Fr.rf (Or.inl (by decide))) (Or.inl (by decide))) (Or.inl (by decide))) (Or.inl (by decide))) (Or.inr (by decide))) (hA.mo (by decide) (by decide))) c1 c3 c4 c5 c7 c8 (fun h => by omega) (by rw [if_pos (by omega), hA.f 1 2 (by decide) (by decide)]; show Int32.toInt ch18 = _; omega) (by rw [hA.f 1 2 (by decide) (by decide)]; show Int32.toInt ch18 ≤ 8; omega) (by rw [hA.a 10 (by decide) (by decide)]; exact up_iv hX.sn _ (by omega)) (by rw [hA.a 12 (by decide) (by decide)]; exact up_iv hX.tk _ (by omega)) (fun j hj => by rw [hA.a 10 (by decide) (by decide), hA.a 11 (by decide) (by decide)]; have hne : j ≠ (σ.1 1 2).toNatClampNeg := (by unfold Int32.toNatClampNeg; omega); exact ⟨pk_un hne, pk_un hne⟩) (fun h => by rw [hA.a 10 (by decide) (by decide), hA.a 11 (by decide) (by decide)]; refine ⟨?_, ?_⟩; (show (upd (σ.1 10) (σ.1 1 2).toNatClampNeg p (σ.1 1 2).toNatClampNeg).toInt = _; rw [pk_us]); (show (upd (σ.1 11) (σ.1 1 2).toNatClampNeg kh18 (σ.1 1 2).toNatClampNeg).toInt = _; rw [pk_us]; omega))
          refine s_aload_n C dX9_send_69 rfl ?_
          refine s_callVV (st := []) C (c_X9_noteChange l ad τ21  hXτ21 ) cv_X9_94 y0 rfl rfl rfl ⟨by decide, by decide⟩ (Nat.le_of_ble_eq_true rfl) dX9_send_70 ?_
          intro τ24 h25
          have hXτ24 := h25.1
          have hRτ24 := h25.2.2
          refine s_iload_n C dX9_send_73 rfl ?_
          exact s_iret C X dX9_send_74 ⟨hXτ24, (Fr.tr (Fr.tr (Fr.sV (Fr.sV (Fr.sV (Fr.sV (Fr.sV Fr.rf (Or.inl (by decide))) (Or.inl (by decide))) (Or.inl (by decide))) (Or.inl (by decide))) (Or.inr (by decide))) (Fr.mo hA (by decide) (by decide))) (Fr.mo h25.2.1 (by decide) (by decide))), trivial⟩
        · refine s_bipush C dX9_send_46 (by decide) (fun z26 tz26 => ?_)
          exact s_iret C X dX9_send_48 ⟨hX, Fr.rf, trivial⟩
    · refine s_bipush C dX9_send_20 (by decide) (fun z27 tz27 => ?_)
      exact s_iret C X dX9_send_22 ⟨hX, Fr.rf, trivial⟩
  · refine s_iconst C dX9_send_11 (by decide) (fun z28 tz28 => ?_)
    exact s_iret C X dX9_send_12 ⟨hX, Fr.rf, trivial⟩
set_option maxRecDepth 100000 in
theorem c_X9_take (l : Launch) (ad : Nat → Nat) (σ : Sg) (p : Int32) (m : Int32) (v : Int32) (hX : IX σ.1)  : Mt l yX9_take cX9_take 4 (some .int) 3 ad σ [.ref (ad 0), .int p, .int m, .int v] (oI (fun r τ => IX τ.1 ∧ Fr [3, 4, 5, 6, 7, 8, 9, 10, 11, 12, 13] [(1, 1), (1, 2), (61, 1), (37, 3), (38, 3), (39, 3)] σ τ ∧ True)) := by
  have hpr := hX.pr
  have htot := hX.tot
  have hms := hX.ms
  have hvp := hX.ev p.toNatClampNeg
  refine Mt_intro (by decide +kernel) (by simp [lg_sl, Value.category]) (fun E C X => ?_)
  show WP E ad 0 [some (.ref (ad 0)), some (.int p), some (.int m), some (.int v)] [] σ
  refine s_aload_n C dX9_take_0 rfl ?_
  refine s_getr (k := 0) (j := 1) C y0 fw_X9_12 rfl dX9_take_1 ?_
  refine s_iload_n C dX9_take_4 rfl ?_
  refine s_callVI (st := []) C (c_X5_hasProcess l ad σ p ) cv_X9_97 y1 rfl rfl rfl ⟨by decide, by decide⟩ (Nat.le_of_ble_eq_true rfl) dX9_take_5 ?_
  intro r1 τ2 h3
  obtain ⟨eh3, h3⟩ := h3; replace eh3 := eh3.symm; subst eh3
  refine s_if_eq (tgt := 22) C dX9_take_8 (by decide) (fun q4 => ?_) (fun q4 => ?_)
  · refine s_iconst C dX9_take_22 (by decide) (fun z5 tz5 => ?_)
    exact s_iret C X dX9_take_23 ⟨hX, Fr.rf, trivial⟩
  · refine s_aload_n C dX9_take_11 rfl ?_
    refine s_getr (k := 0) (j := 1) C y0 fw_X9_12 rfl dX9_take_12 ?_
    refine s_iload_n C dX9_take_15 rfl ?_
    refine s_callVI (st := []) C (c_X5_hasMessage l ad σ m ) cv_X9_128 y1 rfl rfl rfl ⟨by decide, by decide⟩ (Nat.le_of_ble_eq_true rfl) dX9_take_16 ?_
    intro r6 τ7 h8
    obtain ⟨eh8, h8⟩ := h8; replace eh8 := eh8.symm; subst eh8
    refine s_if_ne (tgt := 24) C dX9_take_19 (by decide) (fun q9 => ?_) (fun q9 => ?_)
    · refine s_iload_n C dX9_take_24 rfl ?_
      refine s_callSI (st := []) C (c_X9_isValue l ad σ v ) cv_X9_101 rfl rfl ⟨by decide, by decide⟩ (Nat.le_of_ble_eq_true rfl) dX9_take_25 ?_
      intro r10 τ11 h12
      obtain ⟨eh12, h12⟩ := h12; replace eh12 := eh12.symm; subst eh12
      refine s_if_ne (tgt := 34) C dX9_take_28 (by decide) (fun q13 => ?_) (fun q13 => ?_)
      · refine s_aload_n C dX9_take_34 rfl ?_
        refine s_getr (k := 0) (j := 1) C y0 fw_X9_12 rfl dX9_take_35 ?_
        refine s_iload_n C dX9_take_38 rfl ?_
        refine s_callVI (st := []) C (c_X5_isTaken l ad σ m (by omega)) cv_X9_131 y1 rfl rfl rfl ⟨by decide, by decide⟩ (Nat.le_of_ble_eq_true rfl) dX9_take_39 ?_
        intro r14 τ15 h16
        obtain ⟨eh16, h16⟩ := h16; replace eh16 := eh16.symm; subst eh16
        refine s_if_eq (tgt := 48) C dX9_take_42 (by decide) (fun q17 => ?_) (fun q17 => ?_)
        · refine s_aload_n C dX9_take_48 rfl ?_
          refine s_getr (k := 0) (j := 1) C y0 fw_X9_12 rfl dX9_take_49 ?_
          refine s_iload_n C dX9_take_52 rfl ?_
          refine s_callVI (st := []) C (c_X5_isFullAt l ad σ p (by omega)) cv_X9_111 y1 rfl rfl rfl ⟨by decide, by decide⟩ (Nat.le_of_ble_eq_true rfl) dX9_take_53 ?_
          intro r18 τ19 h20
          obtain ⟨eh20, h20⟩ := h20; replace eh20 := eh20.symm; subst eh20
          refine s_if_eq (tgt := 62) C dX9_take_56 (by decide) (fun q21 => ?_) (fun q21 => ?_)
          · have hmn : ((m.toNatClampNeg : Nat) : Int) = m.toInt := by unfold Int32.toNatClampNeg; omega
            obtain ⟨tt, ht1, ht2, ht3, ht4, ht5, ht6⟩ := rc_from hX.RU (m := m.toNatClampNeg) (by omega)
            have hsm := hX.sn m.toNatClampNeg
            refine s_aload_n C dX9_take_62 rfl ?_
            refine s_getr (k := 0) (j := 1) C y0 fw_X9_12 rfl dX9_take_63 ?_
            refine s_iload_n C dX9_take_66 rfl ?_
            refine s_iconst C dX9_take_67 (by decide) (fun z22 tz22 => ?_)
            refine s_iload_n C dX9_take_68 rfl ?_
            refine s_iload_n C dX9_take_69 rfl ?_
            refine s_callVV (st := []) C (c_X5_append l ad σ p z22 m v (by exact hpr) (by omega) (by show 0 ≤ Int32.toInt (σ.1 3 p.toNatClampNeg) ∧ Int32.toInt (σ.1 3 p.toNatClampNeg) < 5; omega) (by show 0 ≤ Int32.toInt (σ.1 1 1) ∧ Int32.toInt (σ.1 1 1) < 20; have := rc_lt hX.RU (p := p) (by omega) (by omega); omega) (fun _ => ⟨by omega, by omega, by omega, by omega, by omega, by omega⟩)) cv_X9_114 y1 rfl rfl rfl ⟨by decide, by decide⟩ (Nat.le_of_ble_eq_true rfl) dX9_take_70 ?_
            intro τ24 h25
            obtain ⟨hA, kk, c1, c3, c4, c5, c7, c8⟩ := h25
            refine s_aload_n C dX9_take_73 rfl ?_
            refine s_getr (k := 0) (j := 1) C y0 fw_X9_12 rfl dX9_take_74 ?_
            refine s_iload_n C dX9_take_77 rfl ?_
            refine s_iload_n C dX9_take_78 rfl ?_
            refine s_callVV (st := []) C (c_X5_closeMessage l ad τ24 m p (by omega) (by omega)) cv_X9_134 y1 rfl rfl rfl ⟨by decide, by decide⟩ (Nat.le_of_ble_eq_true rfl) dX9_take_79 ?_
            intro τ27 h28
            subst h28
            refine s_aload_n C dX9_take_82 rfl ?_
            refine s_callVV (st := []) C (c_X9_noteChange l ad (sV (sV τ24 12 m.toNatClampNeg p) 13 m.toNatClampNeg (τ24.1 3 p.toNatClampNeg))  (ix_grow (υ := (sV (sV τ24 12 m.toNatClampNeg p) 13 m.toNatClampNeg (τ24.1 3 p.toNatClampNeg))) hX (p := p) (by omega) (by omega) (by omega) (Fr.sV (Fr.sV (Fr.tr Fr.rf (Fr.mo hA (by decide) (by decide))) (Or.inl (by decide))) (Or.inl (by decide))) c1 c3 c4 c5 c7 c8 (fun h => by omega) (by show Int32.toInt (τ24.1 1 2) = _; rw [if_neg (by omega), hA.f 1 2 (by decide) (by decide)]; omega) (by show Int32.toInt (τ24.1 1 2) ≤ 8; rw [hA.f 1 2 (by decide) (by decide)]; omega) (by show ∀ j, 0 ≤ (τ24.1 10 j).toInt ∧ (τ24.1 10 j).toInt ≤ 3; rw [hA.a 10 (by decide) (by decide)]; exact hX.sn) (up_iv (f := τ24.1 12) (by rw [hA.a 12 (by decide) (by decide)]; exact hX.tk) _ (by omega)) (fun j _ => by show τ24.1 10 j = _ ∧ τ24.1 11 j = _; rw [hA.a 10 (by decide) (by decide), hA.a 11 (by decide) (by decide)]; exact ⟨rfl, rfl⟩) (fun h => by omega)) ) cv_X9_94 y0 rfl rfl rfl ⟨by decide, by decide⟩ (Nat.le_of_ble_eq_true rfl) dX9_take_83 ?_
            intro τ30 h31
            have hXτ30 := h31.1
            have hRτ30 := h31.2.2
            refine s_aload_n C dX9_take_86 rfl ?_
            refine s_getr (k := 0) (j := 1) C y0 fw_X9_12 rfl dX9_take_87 ?_
            refine s_getr (k := 4) (j := 3) C y1 fw_X9_118 rfl dX9_take_90 ?_
            refine s_iload_n C dX9_take_93 rfl ?_
            refine s_iald (r := (τ30.1 3 p.toNatClampNeg)) C y3 (by omega) rfl dX9_take_94 ?_
            exact s_iret C X dX9_take_95 ⟨hXτ30, (Fr.tr (Fr.sV (Fr.sV (Fr.tr Fr.rf (Fr.mo hA (by decide) (by decide))) (Or.inl (by decide))) (Or.inl (by decide))) (Fr.mo h31.2.1 (by decide) (by decide))), trivial⟩
          · refine s_bipush C dX9_take_59 (by decide) (fun z32 tz32 => ?_)
            exact s_iret C X dX9_take_61 ⟨hX, Fr.rf, trivial⟩
        · refine s_bipush C dX9_take_45 (by decide) (fun z33 tz33 => ?_)
          exact s_iret C X dX9_take_47 ⟨hX, Fr.rf, trivial⟩
      · refine s_bipush C dX9_take_31 (by decide) (fun z34 tz34 => ?_)
        exact s_iret C X dX9_take_33 ⟨hX, Fr.rf, trivial⟩
    · refine s_iconst C dX9_take_22 (by decide) (fun z35 tz35 => ?_)
      exact s_iret C X dX9_take_23 ⟨hX, Fr.rf, trivial⟩
set_option maxRecDepth 100000 in
theorem c_X9_doStatement (l : Launch) (ad : Nat → Nat) (σ : Sg)  (hX : IX σ.1)  : Mt l yX9_doStatement cX9_doStatement 1 (some .int) 4 ad σ [.ref (ad 0)] (oI (fun r τ => IX τ.1 ∧ Fr [3, 4, 5, 6, 7, 8, 9, 10, 11, 12, 13] [(1, 1), (1, 2), (61, 1), (37, 3), (38, 3), (39, 3)] σ τ ∧ True)) := by
  refine Mt_intro (by decide +kernel) (by simp [lg_sl, Value.category]) (fun E C X => ?_)
  show WP E ad 0 [some (.ref (ad 0))] [] σ
  refine s_aload_n C dX9_doStatement_0 rfl ?_
  refine s_getr (k := 9) (j := 70) C y0 fw_X9_74 rfl dX9_doStatement_1 ?_
  refine s_get (k := 2) (x := (σ.1 70 2)) C y70 fw_X9_354 rfl rfl dX9_doStatement_4 ?_
  refine s_if_ne (tgt := 29) C dX9_doStatement_7 (by decide) (fun q1 => ?_) (fun q1 => ?_)
  · refine s_aload_n C dX9_doStatement_29 rfl ?_
    refine s_getr (k := 9) (j := 70) C y0 fw_X9_74 rfl dX9_doStatement_30 ?_
    refine s_get (k := 2) (x := (σ.1 70 2)) C y70 fw_X9_354 rfl rfl dX9_doStatement_33 ?_
    refine s_iconst C dX9_doStatement_36 (by decide) (fun z2 tz2 => ?_)
    refine s_icmp_ne (tgt := 59) C dX9_doStatement_37 (by decide) (fun q3 => ?_) (fun q3 => ?_)
    · refine s_aload_n C dX9_doStatement_59 rfl ?_
      refine s_aload_n C dX9_doStatement_60 rfl ?_
      refine s_getr (k := 9) (j := 70) C y0 fw_X9_74 rfl dX9_doStatement_61 ?_
      refine s_get (k := 3) (x := (σ.1 70 3)) C y70 fw_X9_357 rfl rfl dX9_doStatement_64 ?_
      refine s_aload_n C dX9_doStatement_67 rfl ?_
      refine s_getr (k := 9) (j := 70) C y0 fw_X9_74 rfl dX9_doStatement_68 ?_
      refine s_get (k := 4) (x := (σ.1 70 4)) C y70 fw_X9_369 rfl rfl dX9_doStatement_71 ?_
      refine s_aload_n C dX9_doStatement_74 rfl ?_
      refine s_getr (k := 9) (j := 70) C y0 fw_X9_74 rfl dX9_doStatement_75 ?_
      refine s_get (k := 5) (x := (σ.1 70 5)) C y70 fw_X9_360 rfl rfl dX9_doStatement_78 ?_
      refine s_callVI (st := []) C (c_X9_take l ad σ ((σ.1 70 3)) ((σ.1 70 4)) ((σ.1 70 5)) hX ) cv_X9_372 y0 rfl rfl rfl ⟨by decide, by decide⟩ (Nat.le_of_ble_eq_true rfl) dX9_doStatement_81 ?_
      intro r4 τ5 h6
      have hXτ5 := h6.1
      have hRτ5 := h6.2.2
      exact s_iret C X dX9_doStatement_84 ⟨hXτ5, (Fr.tr Fr.rf (Fr.mo h6.2.1 (by decide) (by decide))), trivial⟩
    · refine s_aload_n C dX9_doStatement_40 rfl ?_
      refine s_aload_n C dX9_doStatement_41 rfl ?_
      refine s_getr (k := 9) (j := 70) C y0 fw_X9_74 rfl dX9_doStatement_42 ?_
      refine s_get (k := 3) (x := (σ.1 70 3)) C y70 fw_X9_357 rfl rfl dX9_doStatement_45 ?_
      refine s_aload_n C dX9_doStatement_48 rfl ?_
      refine s_getr (k := 9) (j := 70) C y0 fw_X9_74 rfl dX9_doStatement_49 ?_
      refine s_get (k := 5) (x := (σ.1 70 5)) C y70 fw_X9_360 rfl rfl dX9_doStatement_52 ?_
      refine s_callVI (st := []) C (c_X9_send l ad σ ((σ.1 70 3)) ((σ.1 70 5)) hX ) cv_X9_366 y0 rfl rfl rfl ⟨by decide, by decide⟩ (Nat.le_of_ble_eq_true rfl) dX9_doStatement_55 ?_
      intro r7 τ8 h9
      have hXτ8 := h9.1
      have hRτ8 := h9.2.2
      exact s_iret C X dX9_doStatement_58 ⟨hXτ8, (Fr.tr Fr.rf (Fr.mo h9.2.1 (by decide) (by decide))), trivial⟩
  · refine s_aload_n C dX9_doStatement_10 rfl ?_
    refine s_aload_n C dX9_doStatement_11 rfl ?_
    refine s_getr (k := 9) (j := 70) C y0 fw_X9_74 rfl dX9_doStatement_12 ?_
    refine s_get (k := 3) (x := (σ.1 70 3)) C y70 fw_X9_357 rfl rfl dX9_doStatement_15 ?_
    refine s_aload_n C dX9_doStatement_18 rfl ?_
    refine s_getr (k := 9) (j := 70) C y0 fw_X9_74 rfl dX9_doStatement_19 ?_
    refine s_get (k := 5) (x := (σ.1 70 5)) C y70 fw_X9_360 rfl rfl dX9_doStatement_22 ?_
    refine s_callVI (st := []) C (c_X9_step l ad σ ((σ.1 70 3)) ((σ.1 70 5)) hX ) cv_X9_363 y0 rfl rfl rfl ⟨by decide, by decide⟩ (Nat.le_of_ble_eq_true rfl) dX9_doStatement_25 ?_
    intro r10 τ11 h12
    have hXτ11 := h12.1
    have hRτ11 := h12.2.2
    exact s_iret C X dX9_doStatement_28 ⟨hXτ11, (Fr.tr Fr.rf (Fr.mo h12.2.1 (by decide) (by decide))), trivial⟩
set_option maxRecDepth 100000 in
theorem L_doS (l : Launch) (ad : Nat → Nat) (E : Ev) (σ : Sg) (C : Cx E l (rmk 5) 2 cX9_doStatements RX9) (X : Rx E ad (some .int) (oI (fun r τ => IX τ.1 ∧ Fr [3, 4, 5, 6, 7, 8, 9, 10, 11, 12, 13] [(1, 1), (1, 2), (61, 1), (37, 3), (38, 3), (39, 3), (66, 1), (70, 2), (70, 3), (70, 4), (70, 5)] σ τ ∧ True)))  : ∀ (n : Nat) (τ : Sg) (z : Int32), (Fr [3, 4, 5, 6, 7, 8, 9, 10, 11, 12, 13] [(1, 1), (1, 2), (61, 1), (37, 3), (38, 3), (39, 3), (66, 1), (70, 2), (70, 3), (70, 4), (70, 5)] σ τ) → (IX τ.1) → (0 ≤ z.toInt) → (60 - z.toInt).toNat < n → WP E ad 10 [some (.ref (ad 0)), some (.int z)] [] τ := by
  intro n
  induction n with
  | zero => intro τ z kF hXτ h0 hm9; exact absurd hm9 (Nat.not_lt_zero _)
  | succ n ih =>
    intro τ z kF hXτ h0 hm9
    refine s_iload_n C dX9_doStatements_10 rfl ?_
    refine s_bipush C dX9_doStatements_11 (by decide) (fun z1 tz1 => ?_)
    refine s_icmp_ge (tgt := 61) C dX9_doStatements_13 (by decide) (fun q2 => ?_) (fun q2 => ?_)
    · refine s_bipush C dX9_doStatements_61 (by decide) (fun z3 tz3 => ?_)
      exact s_iret C X dX9_doStatements_63 ⟨hXτ, (Fr.tr Fr.rf (Fr.mo kF (by decide) (by decide))), trivial⟩
    · refine s_aload_n C dX9_doStatements_16 rfl ?_
      refine s_getr (k := 9) (j := 70) C y0 fw_X9_74 rfl dX9_doStatements_17 ?_
      refine s_callVI (st := []) C (c_X6_readStatement l ad τ  hXτ ) cv_X9_345 y70 rfl rfl rfl ⟨by decide, by decide⟩ (Nat.le_of_ble_eq_true rfl) dX9_doStatements_20 ?_
      intro r4 τ5 h6
      have hXτ5 := h6.1
      have hRτ5 := h6.2.2
      refine s_if_eq (tgt := 33) C dX9_doStatements_23 (by decide) (fun q7 => ?_) (fun q7 => ?_)
      · refine s_sipush C dX9_doStatements_33 (by decide) (fun z8 tz8 => ?_)
        refine s_iload_n C dX9_doStatements_36 rfl ?_
        refine s_isub C dX9_doStatements_37 (by omega) (fun z9 tz9 => ?_)
        exact s_iret C X dX9_doStatements_38 ⟨hXτ5, (Fr.tr (Fr.tr Fr.rf (Fr.mo kF (by decide) (by decide))) (Fr.mo h6.2.1 (by decide) (by decide))), trivial⟩
      · refine s_aload_n C dX9_doStatements_26 rfl ?_
        refine s_callVI (st := []) C (c_X9_doStatement l ad τ5  hXτ5 ) cv_X9_348 y0 rfl rfl rfl ⟨by decide, by decide⟩ (Nat.le_of_ble_eq_true rfl) dX9_doStatements_27 ?_
        intro r10 τ11 h12
        have hXτ11 := h12.1
        have hRτ11 := h12.2.2
        refine s_if_ge (tgt := 39) C dX9_doStatements_30 (by decide) (fun q13 => ?_) (fun q13 => ?_)
        · refine s_aload_n C dX9_doStatements_39 rfl ?_
          refine s_getr (k := 7) (j := 66) C y0 fw_X9_45 rfl dX9_doStatements_40 ?_
          refine s_bipush C dX9_doStatements_43 (by decide) (fun z14 tz14 => ?_)
          refine s_callVI (st := []) C (c_X8_accept l ad τ11 z14 hXτ11 ) cv_X9_351 y66 rfl rfl rfl ⟨by decide, by decide⟩ (Nat.le_of_ble_eq_true rfl) dX9_doStatements_45 ?_
          intro r15 τ16 h17
          have hXτ16 := h17.1
          have hRτ16 := h17.2.2
          refine s_if_ne (tgt := 55) C dX9_doStatements_48 (by decide) (fun q18 => ?_) (fun q18 => ?_)
          · refine s_iinc C dX9_doStatements_55 rfl (by decide) rfl (by decide) (by omega) (fun z19 tz19 => ?_)
            show WP E ad 58 [some (.ref (ad 0)), some (.int z19)] [] τ16
            refine s_goto (tgt := 10) C dX9_doStatements_58 (by decide) ?_
            exact ih τ16 z19 (Fr.tr (Fr.tr (Fr.tr (Fr.tr Fr.rf (Fr.mo kF (by decide) (by decide))) (Fr.mo h6.2.1 (by decide) (by decide))) (Fr.mo h12.2.1 (by decide) (by decide))) (Fr.mo h17.2.1 (by decide) (by decide))) hXτ16 (by omega) (by omega)
          · refine s_iload_n C dX9_doStatements_51 rfl ?_
            refine s_iconst C dX9_doStatements_52 (by decide) (fun z20 tz20 => ?_)
            refine s_iadd C dX9_doStatements_53 (by omega) (fun z21 tz21 => ?_)
            exact s_iret C X dX9_doStatements_54 ⟨hXτ16, (Fr.tr (Fr.tr (Fr.tr (Fr.tr Fr.rf (Fr.mo kF (by decide) (by decide))) (Fr.mo h6.2.1 (by decide) (by decide))) (Fr.mo h12.2.1 (by decide) (by decide))) (Fr.mo h17.2.1 (by decide) (by decide))), trivial⟩
        · refine s_sipush C dX9_doStatements_33 (by decide) (fun z22 tz22 => ?_)
          refine s_iload_n C dX9_doStatements_36 rfl ?_
          refine s_isub C dX9_doStatements_37 (by omega) (fun z23 tz23 => ?_)
          exact s_iret C X dX9_doStatements_38 ⟨hXτ11, (Fr.tr (Fr.tr (Fr.tr Fr.rf (Fr.mo kF (by decide) (by decide))) (Fr.mo h6.2.1 (by decide) (by decide))) (Fr.mo h12.2.1 (by decide) (by decide))), trivial⟩
set_option maxRecDepth 100000 in
theorem c_X9_doStatements (l : Launch) (ad : Nat → Nat) (σ : Sg)  (hX : IX σ.1)  : Mt l yX9_doStatements cX9_doStatements 2 (some .int) 5 ad σ [.ref (ad 0)] (oI (fun r τ => IX τ.1 ∧ Fr [3, 4, 5, 6, 7, 8, 9, 10, 11, 12, 13] [(1, 1), (1, 2), (61, 1), (37, 3), (38, 3), (39, 3), (66, 1), (70, 2), (70, 3), (70, 4), (70, 5)] σ τ ∧ True)) := by
  refine Mt_intro (by decide +kernel) (by simp [lg_sl, Value.category]) (fun E C X => ?_)
  show WP E ad 0 [some (.ref (ad 0)), none] [] σ
  refine s_aload_n C dX9_doStatements_0 rfl ?_
  refine s_getr (k := 7) (j := 66) C y0 fw_X9_45 rfl dX9_doStatements_1 ?_
  refine s_iconst C dX9_doStatements_4 (by decide) (fun z1 tz1 => ?_)
  refine s_put (k := 1) C y66 fw_X9_246 fp_7_1 rfl dX9_doStatements_5 ?_
  refine s_iconst C dX9_doStatements_8 (by decide) (fun z2 tz2 => ?_)
  refine s_istore_n C dX9_doStatements_9 (by decide) (Nat.le_of_ble_eq_true rfl) rfl ?_
  show WP E ad 10 [some (.ref (ad 0)), some (.int z2)] [] (sV σ 66 1 z1)
  exact L_doS l ad E σ C X 100 (sV σ 66 1 z1) z2 (Fr.sV Fr.rf (Or.inr (by decide))) ⟨hX.1, hX.2.1, hX.2.2.1, hX.2.2.2.1, hX.2.2.2.2.1, hX.2.2.2.2.2.1, hX.2.2.2.2.2.2.1, hX.2.2.2.2.2.2.2.1, hX.2.2.2.2.2.2.2.2.1, hX.2.2.2.2.2.2.2.2.2.1, hX.2.2.2.2.2.2.2.2.2.2.1, hX.2.2.2.2.2.2.2.2.2.2.2.1, ⟨hX.tl, (by show 0 ≤ Int32.toInt z1 ∧ Int32.toInt z1 ≤ 60; omega)⟩, hX.2.2.2.2.2.2.2.2.2.2.2.2.2⟩ (by omega) (by omega)
set_option maxRecDepth 100000 in
theorem c_X9_tell (l : Launch) (ad : Nat → Nat) (σ : Sg)  (hX : IX σ.1)  : Mt l yX9_tell cX9_tell 2 (some .int) 6 ad σ [.ref (ad 0)] (oI (fun r τ => IX τ.1 ∧ Fr [3, 4, 5, 6, 7, 8, 9, 10, 11, 12, 13] [(1, 1), (1, 2), (61, 1), (37, 3), (38, 3), (39, 3), (66, 1), (70, 2), (70, 3), (70, 4), (70, 5), (66, 0)] σ τ ∧ (τ.1 66 0).toInt = 0)) := by
  refine Mt_intro (by decide +kernel) (by simp [lg_sl, Value.category]) (fun E C X => ?_)
  show WP E ad 0 [some (.ref (ad 0)), none] [] σ
  refine s_aload_n C dX9_tell_0 rfl ?_
  refine s_getr (k := 9) (j := 70) C y0 fw_X9_74 rfl dX9_tell_1 ?_
  refine s_callVI (st := []) C (c_X6_readsWhole l ad σ  hX ) cv_X9_296 y70 rfl rfl rfl ⟨by decide, by decide⟩ (Nat.le_of_ble_eq_true rfl) dX9_tell_4 ?_
  intro r1 τ2 h3
  have hXτ2 := h3.1
  have hRτ2 := h3.2.2
  have tpτ2 := hXτ2.tp
  refine s_if_eq (tgt := 17) C dX9_tell_7 (by decide) (fun q4 => ?_) (fun q4 => ?_)
  · refine s_bipush C dX9_tell_17 (by decide) (fun z5 tz5 => ?_)
    refine s_aload_n C dX9_tell_19 rfl ?_
    refine s_getr (k := 7) (j := 66) C y0 fw_X9_45 rfl dX9_tell_20 ?_
    refine s_get (k := 1) (x := (τ2.1 66 1)) C y66 fw_X9_246 rfl rfl dX9_tell_23 ?_
    refine s_isub C dX9_tell_26 (by omega) (fun z6 tz6 => ?_)
    refine s_istore_n C dX9_tell_27 (by decide) (Nat.le_of_ble_eq_true rfl) rfl ?_
    show WP E ad 28 [some (.ref (ad 0)), some (.int z6)] [] τ2
    refine s_aload_n C dX9_tell_28 rfl ?_
    refine s_getr (k := 7) (j := 66) C y0 fw_X9_45 rfl dX9_tell_29 ?_
    refine s_callVV (st := []) C (c_X8_clear l ad τ2  hXτ2 ) cv_X9_249 y66 rfl rfl rfl ⟨by decide, by decide⟩ (Nat.le_of_ble_eq_true rfl) dX9_tell_32 ?_
    intro τ8 h9
    have hXτ8 := h9.1
    have hRτ8 := h9.2.2
    have tpτ8 := hXτ8.tp
    refine s_iload_n C dX9_tell_35 rfl ?_
    exact s_iret C X dX9_tell_36 ⟨hXτ8, (Fr.tr (Fr.tr Fr.rf (Fr.mo h3.2.1 (by decide) (by decide))) (Fr.mo h9.2.1 (by decide) (by decide))), hRτ8.1⟩
  · refine s_aload_n C dX9_tell_10 rfl ?_
    refine s_callVI (st := []) C (c_X9_doStatements l ad τ2  hXτ2 ) cv_X9_299 y0 rfl rfl rfl ⟨by decide, by decide⟩ (Nat.le_of_ble_eq_true rfl) dX9_tell_11 ?_
    intro r10 τ11 h12
    have hXτ11 := h12.1
    have hRτ11 := h12.2.2
    have tpτ11 := hXτ11.tp
    refine s_goto (tgt := 27) C dX9_tell_14 (by decide) ?_
    refine s_istore_n C dX9_tell_27 (by decide) (Nat.le_of_ble_eq_true rfl) rfl ?_
    show WP E ad 28 [some (.ref (ad 0)), some (.int r10)] [] τ11
    refine s_aload_n C dX9_tell_28 rfl ?_
    refine s_getr (k := 7) (j := 66) C y0 fw_X9_45 rfl dX9_tell_29 ?_
    refine s_callVV (st := []) C (c_X8_clear l ad τ11  hXτ11 ) cv_X9_249 y66 rfl rfl rfl ⟨by decide, by decide⟩ (Nat.le_of_ble_eq_true rfl) dX9_tell_32 ?_
    intro τ14 h15
    have hXτ14 := h15.1
    have hRτ14 := h15.2.2
    have tpτ14 := hXτ14.tp
    refine s_iload_n C dX9_tell_35 rfl ?_
    exact s_iret C X dX9_tell_36 ⟨hXτ14, (Fr.tr (Fr.tr (Fr.tr Fr.rf (Fr.mo h3.2.1 (by decide) (by decide))) (Fr.mo h12.2.1 (by decide) (by decide))) (Fr.mo h15.2.1 (by decide) (by decide))), hRτ14.1⟩
set_option maxRecDepth 100000 in
theorem c_X9_image (l : Launch) (ad : Nat → Nat) (σ : Sg)  (hX : IX σ.1)  : Mt l yX9_image cX9_image 2 (some .int) 2 ad σ [.ref (ad 0)] (oI (fun r τ => IX τ.1 ∧ Fr [15, 16, 17, 18, 19, 20, 21, 22, 23, 24, 25, 26, 46, 47, 48] [(14, 0), (14, 1), (14, 2), (34, 0), (34, 1), (35, 0), (35, 1), (36, 0), (36, 1), (0, 10)] σ τ ∧ τ.1 14 0 = σ.1 1 0 ∧ τ.1 15 = σ.1 2 ∧ (τ.1 0 10).toInt = 1)) := by
  refine Mt_intro (by decide +kernel) (by simp [lg_sl, Value.category]) (fun E C X => ?_)
  show WP E ad 0 [some (.ref (ad 0)), none] [] σ
  refine s_aload_n C dX9_image_0 rfl ?_
  refine s_getr (k := 1) (j := 14) C y0 fw_X9_18 rfl dX9_image_1 ?_
  refine s_aload_n C dX9_image_4 rfl ?_
  refine s_getr (k := 0) (j := 1) C y0 fw_X9_12 rfl dX9_image_5 ?_
  refine s_callVV (st := []) C (c_X5_copyFrom_14 l ad σ  hX ) cv_X9_326 y14 rfl rfl rfl ⟨by decide, by decide⟩ (Nat.le_of_ble_eq_true rfl) dX9_image_8 ?_
  intro τ2 h3
  have hXτ2 := h3.1
  have hRτ2 := h3.2.2
  refine s_iconst C dX9_image_11 (by decide) (fun z4 tz4 => ?_)
  refine s_istore_n C dX9_image_12 (by decide) (Nat.le_of_ble_eq_true rfl) rfl ?_
  show WP E ad 13 [some (.ref (ad 0)), some (.int z4)] [] τ2
  refine s_iload_n C dX9_image_13 rfl ?_
  refine s_iconst C dX9_image_14 (by decide) (fun z5 tz5 => ?_)
  refine s_icmp_ge (tgt := 39) C dX9_image_15 (by decide) (fun q6 => ?_) (fun q6 => ?_)
  · omega
  · refine s_aload_n C dX9_image_18 rfl ?_
    refine s_getr (k := 3) (j := 28) C y0 fw_X9_27 rfl dX9_image_19 ?_
    refine s_iload_n C dX9_image_22 rfl ?_
    refine s_aald (kd := 0) C y28 ⟨_, rfl⟩ (by omega) dX9_image_23 ?_
    rw [show z4.toNatClampNeg = 0 by unfold Int32.toNatClampNeg; omega]
    refine s_aload_n C dX9_image_24 rfl ?_
    refine s_getr (k := 2) (j := 27) C y0 fw_X9_23 rfl dX9_image_25 ?_
    refine s_iload_n C dX9_image_28 rfl ?_
    refine s_aald (kd := 0) C y27 ⟨_, rfl⟩ (by omega) dX9_image_29 ?_
    rw [show z4.toNatClampNeg = 0 by unfold Int32.toNatClampNeg; omega]
    refine s_callVV (st := []) C (c_X0_copyFrom_34 l ad τ2  hXτ2 ) cv_X9_329 y34 rfl rfl rfl ⟨by decide, by decide⟩ (Nat.le_of_ble_eq_true rfl) dX9_image_30 ?_
    intro τ8 h9
    have hXτ8 := h9.1
    have hRτ8 := h9.2.2
    refine s_iinc C dX9_image_33 rfl (by decide) rfl (by decide) (by omega) (fun z10 tz10 => ?_)
    show WP E ad 36 [some (.ref (ad 0)), some (.int z10)] [] τ8
    refine s_goto (tgt := 13) C dX9_image_36 (by decide) ?_
    refine s_iload_n C dX9_image_13 rfl ?_
    refine s_iconst C dX9_image_14 (by decide) (fun z11 tz11 => ?_)
    refine s_icmp_ge (tgt := 39) C dX9_image_15 (by decide) (fun q12 => ?_) (fun q12 => ?_)
    · omega
    · refine s_aload_n C dX9_image_18 rfl ?_
      refine s_getr (k := 3) (j := 28) C y0 fw_X9_27 rfl dX9_image_19 ?_
      refine s_iload_n C dX9_image_22 rfl ?_
      refine s_aald (kd := 0) C y28 ⟨_, rfl⟩ (by omega) dX9_image_23 ?_
      rw [show z10.toNatClampNeg = 1 by unfold Int32.toNatClampNeg; omega]
      refine s_aload_n C dX9_image_24 rfl ?_
      refine s_getr (k := 2) (j := 27) C y0 fw_X9_23 rfl dX9_image_25 ?_
      refine s_iload_n C dX9_image_28 rfl ?_
      refine s_aald (kd := 0) C y27 ⟨_, rfl⟩ (by omega) dX9_image_29 ?_
      rw [show z10.toNatClampNeg = 1 by unfold Int32.toNatClampNeg; omega]
      refine s_callVV (st := []) C (c_X0_copyFrom_35 l ad τ8  hXτ8 ) cv_X9_329 y35 rfl rfl rfl ⟨by decide, by decide⟩ (Nat.le_of_ble_eq_true rfl) dX9_image_30 ?_
      intro τ14 h15
      have hXτ14 := h15.1
      have hRτ14 := h15.2.2
      refine s_iinc C dX9_image_33 rfl (by decide) rfl (by decide) (by omega) (fun z16 tz16 => ?_)
      show WP E ad 36 [some (.ref (ad 0)), some (.int z16)] [] τ14
      refine s_goto (tgt := 13) C dX9_image_36 (by decide) ?_
      refine s_iload_n C dX9_image_13 rfl ?_
      refine s_iconst C dX9_image_14 (by decide) (fun z17 tz17 => ?_)
      refine s_icmp_ge (tgt := 39) C dX9_image_15 (by decide) (fun q18 => ?_) (fun q18 => ?_)
      · omega
      · refine s_aload_n C dX9_image_18 rfl ?_
        refine s_getr (k := 3) (j := 28) C y0 fw_X9_27 rfl dX9_image_19 ?_
        refine s_iload_n C dX9_image_22 rfl ?_
        refine s_aald (kd := 0) C y28 ⟨_, rfl⟩ (by omega) dX9_image_23 ?_
        rw [show z16.toNatClampNeg = 2 by unfold Int32.toNatClampNeg; omega]
        refine s_aload_n C dX9_image_24 rfl ?_
        refine s_getr (k := 2) (j := 27) C y0 fw_X9_23 rfl dX9_image_25 ?_
        refine s_iload_n C dX9_image_28 rfl ?_
        refine s_aald (kd := 0) C y27 ⟨_, rfl⟩ (by omega) dX9_image_29 ?_
        rw [show z16.toNatClampNeg = 2 by unfold Int32.toNatClampNeg; omega]
        refine s_callVV (st := []) C (c_X0_copyFrom_36 l ad τ14  hXτ14 ) cv_X9_329 y36 rfl rfl rfl ⟨by decide, by decide⟩ (Nat.le_of_ble_eq_true rfl) dX9_image_30 ?_
        intro τ20 h21
        have hXτ20 := h21.1
        have hRτ20 := h21.2.2
        refine s_iinc C dX9_image_33 rfl (by decide) rfl (by decide) (by omega) (fun z22 tz22 => ?_)
        show WP E ad 36 [some (.ref (ad 0)), some (.int z22)] [] τ20
        refine s_goto (tgt := 13) C dX9_image_36 (by decide) ?_
        refine s_iload_n C dX9_image_13 rfl ?_
        refine s_iconst C dX9_image_14 (by decide) (fun z23 tz23 => ?_)
        refine s_icmp_ge (tgt := 39) C dX9_image_15 (by decide) (fun q24 => ?_) (fun q24 => ?_)
        · refine s_aload_n C dX9_image_39 rfl ?_
          refine s_iconst C dX9_image_40 (by decide) (fun z25 tz25 => ?_)
          refine s_putz (k := 10) C y0 fw_X9_49 fp_8_10 rfl (by omega) dX9_image_41 ?_
          refine s_aload_n C dX9_image_44 rfl ?_
          refine s_getr (k := 0) (j := 1) C y0 fw_X9_12 rfl dX9_image_45 ?_
          refine s_get (k := 1) (x := (τ20.1 1 1)) C y1 fw_X9_138 rfl rfl dX9_image_48 ?_
          exact s_iret C X dX9_image_51 ⟨hXτ20, (Fr.sV (Fr.tr (Fr.tr (Fr.tr (Fr.tr Fr.rf (Fr.mo h3.2.1 (by decide) (by decide))) (Fr.mo h9.2.1 (by decide) (by decide))) (Fr.mo h15.2.1 (by decide) (by decide))) (Fr.mo h21.2.1 (by decide) (by decide))) (Or.inr (by decide))), ((h21.2.1).f 14 0 (by decide) (by decide)).trans (((h15.2.1).f 14 0 (by decide) (by decide)).trans (((h9.2.1).f 14 0 (by decide) (by decide)).trans (hRτ2.1))), ((h21.2.1).a 15 (by decide) (by decide)).trans (((h15.2.1).a 15 (by decide) (by decide)).trans (((h9.2.1).a 15 (by decide) (by decide)).trans (hRτ2.2.1))), (by show Int32.toInt z25 = 1; omega)⟩
        · omega
set_option maxRecDepth 100000 in
theorem c_X9_undo (l : Launch) (ad : Nat → Nat) (σ : Sg)  (hX : IX σ.1)  : Mt l yX9_undo cX9_undo 2 (some .int) 2 ad σ [.ref (ad 0)] (oI (fun r τ => IX τ.1 ∧ Fr [2, 3, 4, 5, 6, 7, 8, 9, 10, 11, 12, 13, 43, 44, 45] [(1, 0), (1, 1), (1, 2), (31, 0), (31, 1), (32, 0), (32, 1), (33, 0), (33, 1), (61, 1), (37, 3), (38, 3), (39, 3)] σ τ ∧ (((σ.1 0 10).toInt = 0 ∧ τ.1 1 0 = σ.1 1 0 ∧ τ.1 2 = σ.1 2) ∨ (¬ (σ.1 0 10).toInt = 0 ∧ τ.1 1 0 = σ.1 14 0 ∧ τ.1 2 = σ.1 15)))) := by
  refine Mt_intro (by decide +kernel) (by simp [lg_sl, Value.category]) (fun E C X => ?_)
  show WP E ad 0 [some (.ref (ad 0)), none] [] σ
  refine s_aload_n C dX9_undo_0 rfl ?_
  refine s_get (k := 10) (x := (σ.1 0 10)) C y0 fw_X9_49 rfl rfl dX9_undo_1 ?_
  refine s_if_ne (tgt := 10) C dX9_undo_4 (by decide) (fun q1 => ?_) (fun q1 => ?_)
  · refine s_aload_n C dX9_undo_10 rfl ?_
    refine s_getr (k := 0) (j := 1) C y0 fw_X9_12 rfl dX9_undo_11 ?_
    refine s_aload_n C dX9_undo_14 rfl ?_
    refine s_getr (k := 1) (j := 14) C y0 fw_X9_18 rfl dX9_undo_15 ?_
    refine s_callVV (st := []) C (c_X5_copyFrom_1 l ad σ  hX ) cv_X9_326 y1 rfl rfl rfl ⟨by decide, by decide⟩ (Nat.le_of_ble_eq_true rfl) dX9_undo_18 ?_
    intro τ3 h4
    have hXτ3 := h4.1
    have hRτ3 := h4.2.2
    refine s_iconst C dX9_undo_21 (by decide) (fun z5 tz5 => ?_)
    refine s_istore_n C dX9_undo_22 (by decide) (Nat.le_of_ble_eq_true rfl) rfl ?_
    show WP E ad 23 [some (.ref (ad 0)), some (.int z5)] [] τ3
    refine s_iload_n C dX9_undo_23 rfl ?_
    refine s_iconst C dX9_undo_24 (by decide) (fun z6 tz6 => ?_)
    refine s_icmp_ge (tgt := 49) C dX9_undo_25 (by decide) (fun q7 => ?_) (fun q7 => ?_)
    · omega
    · refine s_aload_n C dX9_undo_28 rfl ?_
      refine s_getr (k := 2) (j := 27) C y0 fw_X9_23 rfl dX9_undo_29 ?_
      refine s_iload_n C dX9_undo_32 rfl ?_
      refine s_aald (kd := 0) C y27 ⟨_, rfl⟩ (by omega) dX9_undo_33 ?_
      rw [show z5.toNatClampNeg = 0 by unfold Int32.toNatClampNeg; omega]
      refine s_aload_n C dX9_undo_34 rfl ?_
      refine s_getr (k := 3) (j := 28) C y0 fw_X9_27 rfl dX9_undo_35 ?_
      refine s_iload_n C dX9_undo_38 rfl ?_
      refine s_aald (kd := 0) C y28 ⟨_, rfl⟩ (by omega) dX9_undo_39 ?_
      rw [show z5.toNatClampNeg = 0 by unfold Int32.toNatClampNeg; omega]
      refine s_callVV (st := []) C (c_X0_copyFrom_31 l ad τ3  hXτ3 ) cv_X9_329 y31 rfl rfl rfl ⟨by decide, by decide⟩ (Nat.le_of_ble_eq_true rfl) dX9_undo_40 ?_
      intro τ9 h10
      have hXτ9 := h10.1
      have hRτ9 := h10.2.2
      refine s_iinc C dX9_undo_43 rfl (by decide) rfl (by decide) (by omega) (fun z11 tz11 => ?_)
      show WP E ad 46 [some (.ref (ad 0)), some (.int z11)] [] τ9
      refine s_goto (tgt := 23) C dX9_undo_46 (by decide) ?_
      refine s_iload_n C dX9_undo_23 rfl ?_
      refine s_iconst C dX9_undo_24 (by decide) (fun z12 tz12 => ?_)
      refine s_icmp_ge (tgt := 49) C dX9_undo_25 (by decide) (fun q13 => ?_) (fun q13 => ?_)
      · omega
      · refine s_aload_n C dX9_undo_28 rfl ?_
        refine s_getr (k := 2) (j := 27) C y0 fw_X9_23 rfl dX9_undo_29 ?_
        refine s_iload_n C dX9_undo_32 rfl ?_
        refine s_aald (kd := 0) C y27 ⟨_, rfl⟩ (by omega) dX9_undo_33 ?_
        rw [show z11.toNatClampNeg = 1 by unfold Int32.toNatClampNeg; omega]
        refine s_aload_n C dX9_undo_34 rfl ?_
        refine s_getr (k := 3) (j := 28) C y0 fw_X9_27 rfl dX9_undo_35 ?_
        refine s_iload_n C dX9_undo_38 rfl ?_
        refine s_aald (kd := 0) C y28 ⟨_, rfl⟩ (by omega) dX9_undo_39 ?_
        rw [show z11.toNatClampNeg = 1 by unfold Int32.toNatClampNeg; omega]
        refine s_callVV (st := []) C (c_X0_copyFrom_32 l ad τ9  hXτ9 ) cv_X9_329 y32 rfl rfl rfl ⟨by decide, by decide⟩ (Nat.le_of_ble_eq_true rfl) dX9_undo_40 ?_
        intro τ15 h16
        have hXτ15 := h16.1
        have hRτ15 := h16.2.2
        refine s_iinc C dX9_undo_43 rfl (by decide) rfl (by decide) (by omega) (fun z17 tz17 => ?_)
        show WP E ad 46 [some (.ref (ad 0)), some (.int z17)] [] τ15
        refine s_goto (tgt := 23) C dX9_undo_46 (by decide) ?_
        refine s_iload_n C dX9_undo_23 rfl ?_
        refine s_iconst C dX9_undo_24 (by decide) (fun z18 tz18 => ?_)
        refine s_icmp_ge (tgt := 49) C dX9_undo_25 (by decide) (fun q19 => ?_) (fun q19 => ?_)
        · omega
        · refine s_aload_n C dX9_undo_28 rfl ?_
          refine s_getr (k := 2) (j := 27) C y0 fw_X9_23 rfl dX9_undo_29 ?_
          refine s_iload_n C dX9_undo_32 rfl ?_
          refine s_aald (kd := 0) C y27 ⟨_, rfl⟩ (by omega) dX9_undo_33 ?_
          rw [show z17.toNatClampNeg = 2 by unfold Int32.toNatClampNeg; omega]
          refine s_aload_n C dX9_undo_34 rfl ?_
          refine s_getr (k := 3) (j := 28) C y0 fw_X9_27 rfl dX9_undo_35 ?_
          refine s_iload_n C dX9_undo_38 rfl ?_
          refine s_aald (kd := 0) C y28 ⟨_, rfl⟩ (by omega) dX9_undo_39 ?_
          rw [show z17.toNatClampNeg = 2 by unfold Int32.toNatClampNeg; omega]
          refine s_callVV (st := []) C (c_X0_copyFrom_33 l ad τ15  hXτ15 ) cv_X9_329 y33 rfl rfl rfl ⟨by decide, by decide⟩ (Nat.le_of_ble_eq_true rfl) dX9_undo_40 ?_
          intro τ21 h22
          have hXτ21 := h22.1
          have hRτ21 := h22.2.2
          refine s_iinc C dX9_undo_43 rfl (by decide) rfl (by decide) (by omega) (fun z23 tz23 => ?_)
          show WP E ad 46 [some (.ref (ad 0)), some (.int z23)] [] τ21
          refine s_goto (tgt := 23) C dX9_undo_46 (by decide) ?_
          refine s_iload_n C dX9_undo_23 rfl ?_
          refine s_iconst C dX9_undo_24 (by decide) (fun z24 tz24 => ?_)
          refine s_icmp_ge (tgt := 49) C dX9_undo_25 (by decide) (fun q25 => ?_) (fun q25 => ?_)
          · refine s_aload_n C dX9_undo_49 rfl ?_
            refine s_callVV (st := []) C (c_X9_noteChange l ad τ21  hXτ21 ) cv_X9_94 y0 rfl rfl rfl ⟨by decide, by decide⟩ (Nat.le_of_ble_eq_true rfl) dX9_undo_50 ?_
            intro τ27 h28
            have hXτ27 := h28.1
            have hRτ27 := h28.2.2
            refine s_aload_n C dX9_undo_53 rfl ?_
            refine s_getr (k := 0) (j := 1) C y0 fw_X9_12 rfl dX9_undo_54 ?_
            refine s_get (k := 1) (x := (τ27.1 1 1)) C y1 fw_X9_138 rfl rfl dX9_undo_57 ?_
            exact s_iret C X dX9_undo_60 ⟨hXτ27, (Fr.tr (Fr.tr (Fr.tr (Fr.tr (Fr.tr Fr.rf (Fr.mo h4.2.1 (by decide) (by decide))) (Fr.mo h10.2.1 (by decide) (by decide))) (Fr.mo h16.2.1 (by decide) (by decide))) (Fr.mo h22.2.1 (by decide) (by decide))) (Fr.mo h28.2.1 (by decide) (by decide))), Or.inr ⟨by omega, ((h28.2.1).f 1 0 (by decide) (by decide)).trans (((h22.2.1).f 1 0 (by decide) (by decide)).trans (((h16.2.1).f 1 0 (by decide) (by decide)).trans (((h10.2.1).f 1 0 (by decide) (by decide)).trans (hRτ3.1)))), ((h28.2.1).a 2 (by decide) (by decide)).trans (((h22.2.1).a 2 (by decide) (by decide)).trans (((h16.2.1).a 2 (by decide) (by decide)).trans (((h10.2.1).a 2 (by decide) (by decide)).trans (hRτ3.2.1))))⟩⟩
          · omega
  · refine s_bipush C dX9_undo_7 (by decide) (fun z29 tz29 => ?_)
    exact s_iret C X dX9_undo_9 ⟨hX, Fr.rf, Or.inl ⟨by omega, rfl, rfl⟩⟩
