theorem cn_0 (o : Nat → Int32) (p : Int) : cn o p 0 = 0 := rfl
theorem rc_new {pr0 tot0 ms0 pr tot ms : Int32} {ev0 ev o so ca sn se tk : Nat → Int32} (h : RC pr0 tot0 ms0 ev0 o so ca sn se tk) (hp : 1 ≤ pr.toInt ∧ pr.toInt ≤ 4) (ht : tot.toInt = 0) (hm : ms.toInt = 0) (he : ∀ j, 0 ≤ (ev j).toInt ∧ (ev j).toInt ≤ 5) (hz : ∀ j : Nat, (j : Int) < 4 → (ev j).toInt = 0) : RC pr tot ms ev o so ca sn se tk := by
  refine ⟨hp, by omega, by omega, he, h.2.2.2.2.1, fun p hp => ?_, h.2.2.2.2.2.2.1, ?_, h.2.2.2.2.2.2.2.2.1, h.2.2.2.2.2.2.2.2.2.1, fun t htt => ?_, fun t htt => ?_⟩
  · rw [ht, hz p (by omega)]; rfl
  · rw [hm, ht]; rfl
  · rw [ht] at htt; exact absurd htt (Nat.not_lt_zero _)
  · rw [ht] at htt; exact absurd htt (Nat.not_lt_zero _)
theorem im_new {σ τ : Sg} {n0 z : Int32} (hI : IM σ.1) (kF : Fr [72, 73, 84] [(71, 0), (71, 8), (71, 10), (71, 39)] σ τ) (k0 : τ.1 71 0 = n0) (k1 : (τ.1 71 8).toInt = 0) (k2 : (τ.1 71 10).toInt = 0) (hn : 1 ≤ n0.toInt ∧ n0.toInt ≤ 4) (kz : ∀ j : Nat, (j : Int) < 4 → (τ.1 73 j).toInt = 0) (kB : ∀ j, 0 ≤ (τ.1 73 j).toInt ∧ (τ.1 73 j).toInt ≤ 5) (kT : ∀ j, 0 ≤ (τ.1 84 j).toInt ∧ (τ.1 84 j).toInt ≤ 60) (kt : ∀ j : Nat, (j : Int) < 3 → (τ.1 84 j).toInt = 0) (hz : z.toInt = 0) : IM (sV τ 71 39 z).1 := by
  have a : ∀ i, i ∉ [72, 73, 84] → i ≠ 71 → τ.1 i = σ.1 i := fun i h1 h2 => kF.a i h1 (by intro x hx; simp at hx; rcases hx with rfl | rfl | rfl | rfl <;> exact fun q => h2 q.symm)
  have f : ∀ k, (71, k) ∉ [(71, 0), (71, 8), (71, 10), (71, 39)] → τ.1 71 k = σ.1 71 k := fun k h => kF.f 71 k (by decide) h
  refine ⟨?_, ?_, ?_, ?_, ?_, ?_, ?_⟩
  · show RC (τ.1 71 0) (τ.1 71 8) (τ.1 71 10) (τ.1 73) (τ.1 79) (τ.1 74) (τ.1 76) (τ.1 80) (τ.1 81) (τ.1 82)
    rw [a 79 (by decide) (by decide), a 74 (by decide) (by decide), a 76 (by decide) (by decide), a 80 (by decide) (by decide), a 81 (by decide) (by decide), a 82 (by decide) (by decide)]
    exact rc_new hI.1 (by rw [k0]; exact hn) k1 k2 kB kz
  · show CK (τ.1 71 8) (τ.1 79) (τ.1 78)
    rw [a 78 (by decide) (by decide)]
    exact ⟨hI.ck, fun t q ht => by rw [k1] at ht; exact absurd ht (Nat.not_lt_zero _)⟩
  · show 0 ≤ (τ.1 71 17).toInt ∧ (τ.1 71 17).toInt ≤ 60
    rw [f 17 (by decide)]; exact hI.tp
  · show ∀ j, -1 ≤ (τ.1 87 j).toInt ∧ (τ.1 87 j).toInt ≤ 20
    rw [a 87 (by decide) (by decide)]; exact hI.ls
  · show TX (τ.1 71 0) (τ.1 84) (τ.1 85)
    exact fun c => ⟨kT c, fun hc h => by rw [kt c (by omega)] at h; omega⟩
  · show CU z (τ.1 71 0) (τ.1 71 40) (τ.1 73) (τ.1 103) (τ.1 104) (τ.1 105)
    rw [f 40 (by decide), a 103 (by decide) (by decide), a 104 (by decide) (by decide), a 105 (by decide) (by decide)]
    exact cu_off hI.cu hz
  · show ¬ (τ.1 71 21).toInt = 0 → RC (τ.1 71 22) (τ.1 71 30) (τ.1 71 32) (τ.1 90) (τ.1 96) (τ.1 91) (τ.1 93) (τ.1 97) (τ.1 98) (τ.1 99) ∧ CK (τ.1 71 30) (τ.1 96) (τ.1 95) ∧ TX (τ.1 71 22) (τ.1 101) (τ.1 102)
    rw [f 21 (by decide), f 22 (by decide), f 30 (by decide), f 32 (by decide), a 90 (by decide) (by decide), a 96 (by decide) (by decide), a 91 (by decide) (by decide), a 93 (by decide) (by decide), a 97 (by decide) (by decide), a 98 (by decide) (by decide), a 99 (by decide) (by decide), a 95 (by decide) (by decide), a 101 (by decide) (by decide), a 102 (by decide) (by decide)]
    exact hI.2.2.2.2.2.2
set_option maxRecDepth 100000 in
theorem L_processes2 (l : Launch) (ad : Nat → Nat) (E : Ev) (σ : Sg) (hI : IM σ.1) (n0 n2 : Int32) (hn : 1 ≤ n0.toInt ∧ n0.toInt ≤ 4) (C : Cx E l (rmk 1) 4 cX10_processes RX10) (X : Rx E ad (some .int) (oI (fun r τ => IM τ.1 ∧ Fr [72, 73, 84] [(71, 0), (71, 8), (71, 10), (71, 39)] σ τ)))  : ∀ (n : Nat) (τ : Sg) (z : Int32), (Fr [72, 73, 84] [(71, 0), (71, 8), (71, 10), (71, 39)] σ τ) → (τ.1 71 0 = n0) → ((τ.1 71 8).toInt = 0) → ((τ.1 71 10).toInt = 0) → (∀ j : Nat, (j : Int) < 4 → (τ.1 73 j).toInt = 0) → (∀ j, 0 ≤ (τ.1 73 j).toInt ∧ (τ.1 73 j).toInt ≤ 5) → (∀ j, 0 ≤ (τ.1 84 j).toInt ∧ (τ.1 84 j).toInt ≤ 60) → (∀ j : Nat, (j : Int) < z.toInt → (τ.1 84 j).toInt = 0) → (0 ≤ z.toInt ∧ z.toInt ≤ 3) → (3 - z.toInt).toNat < n → WP E ad 64 [some (.ref (ad 71)), some (.int n0), some (.int n2), some (.int z)] [] τ := by
  intro n
  induction n with
  | zero => intro τ z kF k0 k1 k2 kz kB kT hz h0 hm9; exact absurd hm9 (Nat.not_lt_zero _)
  | succ n ih =>
    intro τ z kF k0 k1 k2 kz kB kT hz h0 hm9
    refine s_iload_n C dX10_processes_64 rfl ?_
    refine s_iconst C dX10_processes_65 (by decide) (fun z1 tz1 => ?_)
    refine s_icmp_ge (tgt := 82) C dX10_processes_66 (by decide) (fun q2 => ?_) (fun q2 => ?_)
    · refine s_aload_n C dX10_processes_82 rfl ?_
      refine s_iconst C dX10_processes_83 (by decide) (fun z3 tz3 => ?_)
      refine s_putz (k := 39) C y71 fw_X10_181 fp_9_39 rfl (by omega) dX10_processes_84 ?_
      refine s_iload_n C dX10_processes_87 rfl ?_
      exact s_iret C X dX10_processes_88 ⟨im_new hI kF k0 k1 k2 hn kz kB kT (fun j hj => hz j (by omega)) (by omega), (Fr.sV (Fr.tr Fr.rf (Fr.mo kF (by decide) (by decide))) (Or.inr (by decide)))⟩
    · refine s_aload_n C dX10_processes_69 rfl ?_
      refine s_getr (k := 15) (j := 84) C y71 fw_X10_52 rfl dX10_processes_70 ?_
      refine s_iload_n C dX10_processes_73 rfl ?_
      refine s_iconst C dX10_processes_74 (by decide) (fun z4 tz4 => ?_)
      refine s_iast C y84 (by omega) dX10_processes_75 ?_
      refine s_iinc C dX10_processes_76 rfl (by decide) rfl (by decide) (by omega) (fun z5 tz5 => ?_)
      show WP E ad 79 [some (.ref (ad 71)), some (.int n0), some (.int n2), some (.int z5)] [] (sV τ 84 z.toNatClampNeg z4)
      refine s_goto (tgt := 64) C dX10_processes_79 (by decide) ?_
      exact ih (sV τ 84 z.toNatClampNeg z4) z5 (Fr.sV (Fr.tr Fr.rf (Fr.mo kF (by decide) (by decide))) (Or.inl (by decide))) k0 k1 k2 kz kB (up_iv kT _ (by omega)) (up_z hz (by omega) (by omega) (by omega)) (by omega) (by omega)
set_option maxRecDepth 100000 in
theorem L_processes1 (l : Launch) (ad : Nat → Nat) (E : Ev) (σ : Sg) (hI : IM σ.1) (n0 n2 : Int32) (hn : 1 ≤ n0.toInt ∧ n0.toInt ≤ 4) (C : Cx E l (rmk 1) 4 cX10_processes RX10) (X : Rx E ad (some .int) (oI (fun r τ => IM τ.1 ∧ Fr [72, 73, 84] [(71, 0), (71, 8), (71, 10), (71, 39)] σ τ)))  : ∀ (n : Nat) (τ : Sg) (z : Int32), (Fr [72, 73] [(71, 0), (71, 8), (71, 10), (71, 39)] σ τ) → (τ.1 71 0 = n0) → ((τ.1 71 8).toInt = 0) → ((τ.1 71 10).toInt = 0) → (∀ j, 0 ≤ (τ.1 73 j).toInt ∧ (τ.1 73 j).toInt ≤ 5) → (∀ j : Nat, (j : Int) < z.toInt → (τ.1 73 j).toInt = 0) → (0 ≤ z.toInt ∧ z.toInt ≤ 4) → (4 - z.toInt).toNat < n → WP E ad 37 [some (.ref (ad 71)), some (.int n0), some (.int n2), some (.int z)] [] τ := by
  intro n
  induction n with
  | zero => intro τ z kF k0 k1 k2 kB hz h0 hm9; exact absurd hm9 (Nat.not_lt_zero _)
  | succ n ih =>
    intro τ z kF k0 k1 k2 kB hz h0 hm9
    refine s_iload_n C dX10_processes_37 rfl ?_
    refine s_iconst C dX10_processes_38 (by decide) (fun z1 tz1 => ?_)
    refine s_icmp_ge (tgt := 62) C dX10_processes_39 (by decide) (fun q2 => ?_) (fun q2 => ?_)
    · refine s_iconst C dX10_processes_62 (by decide) (fun z3 tz3 => ?_)
      refine s_istore_n C dX10_processes_63 (by decide) (Nat.le_of_ble_eq_true rfl) rfl ?_
      show WP E ad 64 [some (.ref (ad 71)), some (.int n0), some (.int n2), some (.int z3)] [] τ
      exact L_processes2 l ad E σ hI n0 n2 hn C X 100 τ z3 (kF.mo (by decide) (by decide)) k0 k1 k2 (fun j hj => hz j (by omega)) kB (by rw [kF.a 84 (by decide) (by decide)]; exact hI.tm) (fun j hj => by omega) (by omega) (by omega)
    · refine s_aload_n C dX10_processes_42 rfl ?_
      refine s_getr (k := 1) (j := 72) C y71 fw_X10_15 rfl dX10_processes_43 ?_
      refine s_iload_n C dX10_processes_46 rfl ?_
      refine s_iconst C dX10_processes_47 (by decide) (fun z4 tz4 => ?_)
      refine s_iast C y72 (by omega) dX10_processes_48 ?_
      refine s_aload_n C dX10_processes_49 rfl ?_
      refine s_getr (k := 2) (j := 73) C y71 fw_X10_19 rfl dX10_processes_50 ?_
      refine s_iload_n C dX10_processes_53 rfl ?_
      refine s_iconst C dX10_processes_54 (by decide) (fun z5 tz5 => ?_)
      refine s_iast C y73 (by omega) dX10_processes_55 ?_
      refine s_iinc C dX10_processes_56 rfl (by decide) rfl (by decide) (by omega) (fun z6 tz6 => ?_)
      show WP E ad 59 [some (.ref (ad 71)), some (.int n0), some (.int n2), some (.int z6)] [] (sV (sV τ 72 z.toNatClampNeg z4) 73 z.toNatClampNeg z5)
      refine s_goto (tgt := 37) C dX10_processes_59 (by decide) ?_
      exact ih (sV (sV τ 72 z.toNatClampNeg z4) 73 z.toNatClampNeg z5) z6 (Fr.sV (Fr.sV (Fr.tr Fr.rf (Fr.mo kF (by decide) (by decide))) (Or.inl (by decide))) (Or.inl (by decide))) k0 k1 k2 (up_iv kB _ (by omega)) (up_z hz (by omega) (by omega) (by omega)) (by omega) (by omega)
set_option maxRecDepth 100000 in
theorem c_X10_processes (l : Launch) (ad : Nat → Nat) (σ : Sg) (n : Int32) (hI : IM σ.1) : Mt l yX10_processes cX10_processes 4 (some .int) 1 ad σ [.ref (ad 71), .int n] (oI (fun r τ => IM τ.1 ∧ Fr [72, 73, 84] [(71, 0), (71, 8), (71, 10), (71, 39)] σ τ)) := by
  refine Mt_intro (by decide +kernel) (by simp [lg_sl, Value.category]) (fun E C X => ?_)
  show WP E ad 0 [some (.ref (ad 71)), some (.int n), none, none] [] σ
  refine s_iload_n C dX10_processes_0 rfl ?_
  refine s_i2l C dX10_processes_1 (fun L1 tL1 => ?_)
  refine s_lconst C dX10_processes_2 rfl (fun L2 tL2 => ?_)
  have tL2 : L2.toInt = 1 := tL2
  obtain ⟨L3, eL3⟩ : ∃ q : Int64, q = 4 := ⟨_, rfl⟩
  have tL3 : L3.toInt = 4 := by rw [eL3]; rfl
  refine s_ldc2 (v := L3) C dX10_processes_3 (by rw [eL3]; exact mw 1182 (by decide +kernel) rfl) ?_
  refine s_callSI (st := []) C (c_X10_in l ad σ L1 L2 L3 ) cv_X10_165 rfl rfl ⟨by decide, by decide⟩ (Nat.le_of_ble_eq_true rfl) dX10_processes_6 ?_
  intro r4 τ5 h6
  obtain ⟨eh6, h6⟩ := h6; replace eh6 := eh6.symm; subst eh6
  refine s_if_ne (tgt := 15) C dX10_processes_9 (by decide) (fun q7 => ?_) (fun q7 => ?_)
  · refine s_aload_n C dX10_processes_15 rfl ?_
    refine s_get (k := 0) (x := (σ.1 71 0)) C y71 fw_X10_9 rfl rfl dX10_processes_16 ?_
    refine s_istore_n C dX10_processes_19 (by decide) (Nat.le_of_ble_eq_true rfl) rfl ?_
    show WP E ad 20 [some (.ref (ad 71)), some (.int n), some (.int (σ.1 71 0)), none] [] σ
    refine s_aload_n C dX10_processes_20 rfl ?_
    refine s_iload_n C dX10_processes_21 rfl ?_
    refine s_put (k := 0) C y71 fw_X10_9 fp_9_0 rfl dX10_processes_22 ?_
    refine s_aload_n C dX10_processes_25 rfl ?_
    refine s_iconst C dX10_processes_26 (by decide) (fun z8 tz8 => ?_)
    refine s_put (k := 8) C y71 fw_X10_175 fp_9_8 rfl dX10_processes_27 ?_
    refine s_aload_n C dX10_processes_30 rfl ?_
    refine s_iconst C dX10_processes_31 (by decide) (fun z9 tz9 => ?_)
    refine s_put (k := 10) C y71 fw_X10_178 fp_9_10 rfl dX10_processes_32 ?_
    refine s_iconst C dX10_processes_35 (by decide) (fun z10 tz10 => ?_)
    refine s_istore_n C dX10_processes_36 (by decide) (Nat.le_of_ble_eq_true rfl) rfl ?_
    show WP E ad 37 [some (.ref (ad 71)), some (.int n), some (.int (σ.1 71 0)), some (.int z10)] [] (sV (sV (sV σ 71 0 n) 71 8 z8) 71 10 z9)
    exact L_processes1 l ad E σ hI n (σ.1 71 0) (by omega) C X 100 (sV (sV (sV σ 71 0 n) 71 8 z8) 71 10 z9) z10 (Fr.sV (Fr.sV (Fr.sV Fr.rf (Or.inr (by decide))) (Or.inr (by decide))) (Or.inr (by decide))) rfl (by show Int32.toInt z8 = 0; omega) (by show Int32.toInt z9 = 0; omega) hI.ev (fun j hj => by omega) (by omega) (by omega)
  · refine s_bipush C dX10_processes_12 (by decide) (fun z11 tz11 => ?_)
    exact s_iret C X dX10_processes_14 ⟨hI, Fr.rf⟩
set_option maxRecDepth 100000 in
theorem L_list (l : Launch) (ad : Nat → Nat) (E : Ev) (σ : Sg) (a n0 : Int32) (ha : 0 ≤ a.toInt ∧ a.toInt ≤ 2) (hn : -1 ≤ n0.toInt ∧ n0.toInt ≤ 20) (C : Cx E l (rmk 2) 4 cX10_list RX10) (X : Rx E ad (some .int) (oI (fun r τ => IM τ.1 ∧ Fr [87, 88] [] σ τ)))  : ∀ (n : Nat) (τ : Sg) (z : Int32), (Fr [87, 88] [] σ τ) → (IM τ.1) → (0 ≤ z.toInt) → (20 - z.toInt).toNat < n → WP E ad 35 [some (.ref (ad 71)), some (.int a), some (.int n0), some (.int z)] [] τ := by
  intro n
  induction n with
  | zero => intro τ z kF kI h0 hm9; exact absurd hm9 (Nat.not_lt_zero _)
  | succ n ih =>
    intro τ z kF kI h0 hm9
    refine s_iload_n C dX10_list_35 rfl ?_
    refine s_iload_n C dX10_list_36 rfl ?_
    refine s_icmp_ge (tgt := 58) C dX10_list_37 (by decide) (fun q1 => ?_) (fun q1 => ?_)
    · refine s_iconst C dX10_list_58 (by decide) (fun z2 tz2 => ?_)
      exact s_iret C X dX10_list_59 ⟨kI, (Fr.tr Fr.rf (Fr.mo kF (by decide) (by decide)))⟩
    · refine s_aload_n C dX10_list_40 rfl ?_
      refine s_getr (k := 20) (j := 88) C y71 fw_X10_64 rfl dX10_list_41 ?_
      refine s_bipush C dX10_list_44 (by decide) (fun z3 tz3 => ?_)
      refine s_iload_n C dX10_list_46 rfl ?_
      refine s_imulL C tz3 dX10_list_47 (by omega) (fun z4 tz4 => ?_)
      refine s_iload_n C dX10_list_48 rfl ?_
      refine s_iadd C dX10_list_49 (by omega) (fun z5 tz5 => ?_)
      refine s_lconst C dX10_list_50 rfl (fun L6 tL6 => ?_)
      have tL6 : L6.toInt = 0 := tL6
      refine s_last C y88 (by omega) dX10_list_51 ?_
      refine s_iinc C dX10_list_52 rfl (by decide) rfl (by decide) (by omega) (fun z7 tz7 => ?_)
      show WP E ad 55 [some (.ref (ad 71)), some (.int a), some (.int n0), some (.int z7)] [] (sL τ 88 z5.toNatClampNeg L6)
      refine s_goto (tgt := 35) C dX10_list_55 (by decide) ?_
      exact ih (sL τ 88 z5.toNatClampNeg L6) z7 (Fr.sL (Fr.tr Fr.rf (Fr.mo kF (by decide) (by decide))) (by decide)) kI (by omega) (by omega)
set_option maxRecDepth 100000 in
theorem c_X10_list (l : Launch) (ad : Nat → Nat) (σ : Sg) (a n0 : Int32) (hI : IM σ.1) : Mt l yX10_list cX10_list 4 (some .int) 2 ad σ [.ref (ad 71), .int a, .int n0] (oI (fun r τ => IM τ.1 ∧ Fr [87, 88] [] σ τ)) := by
  refine Mt_intro (by decide +kernel) (by simp [lg_sl, Value.category]) (fun E C X => ?_)
  show WP E ad 0 [some (.ref (ad 71)), some (.int a), some (.int n0), none] [] σ
  refine s_iload_n C dX10_list_0 rfl ?_
  refine s_callSI (st := []) C (c_X10_isList l ad σ a ) cv_X10_349 rfl rfl ⟨by decide, by decide⟩ (Nat.le_of_ble_eq_true rfl) dX10_list_1 ?_
  intro r1 τ2 h3
  obtain ⟨eh3, h3⟩ := h3; replace eh3 := eh3.symm; subst eh3
  refine s_if_ne (tgt := 9) C dX10_list_4 (by decide) (fun q4 => ?_) (fun q4 => ?_)
  · refine s_iload_n C dX10_list_9 rfl ?_
    refine s_bipush C dX10_list_10 (by decide) (fun z5 tz5 => ?_)
    refine s_icmp_le (tgt := 18) C dX10_list_12 (by decide) (fun q6 => ?_) (fun q6 => ?_)
    · refine s_iload_n C dX10_list_18 rfl ?_
      refine s_iconst C dX10_list_19 (by decide) (fun z7 tz7 => ?_)
      refine s_icmp_ge (tgt := 26) C dX10_list_20 (by decide) (fun q8 => ?_) (fun q8 => ?_)
      · refine s_aload_n C dX10_list_26 rfl ?_
        refine s_getr (k := 19) (j := 87) C y71 fw_X10_61 rfl dX10_list_27 ?_
        refine s_iload_n C dX10_list_30 rfl ?_
        refine s_iload_n C dX10_list_31 rfl ?_
        refine s_iast C y87 (by omega) dX10_list_32 ?_
        refine s_iconst C dX10_list_33 (by decide) (fun z9 tz9 => ?_)
        refine s_istore_n C dX10_list_34 (by decide) (Nat.le_of_ble_eq_true rfl) rfl ?_
        show WP E ad 35 [some (.ref (ad 71)), some (.int a), some (.int n0), some (.int z9)] [] (sV σ 87 a.toNatClampNeg n0)
        exact L_list l ad E σ a n0 (by omega) (by omega) C X 100 (sV σ 87 a.toNatClampNeg n0) z9 (Fr.sV Fr.rf (Or.inl (by decide))) ⟨hI.1, hI.2.1, hI.2.2.1, up_iv hI.2.2.2.1 _ (by omega), hI.2.2.2.2.1, hI.2.2.2.2.2.1, hI.2.2.2.2.2.2⟩ (by omega) (by omega)
      · refine s_bipush C dX10_list_23 (by decide) (fun z10 tz10 => ?_)
        exact s_iret C X dX10_list_25 ⟨hI, Fr.rf⟩
    · refine s_bipush C dX10_list_15 (by decide) (fun z11 tz11 => ?_)
      exact s_iret C X dX10_list_17 ⟨hI, Fr.rf⟩
  · refine s_iconst C dX10_list_7 (by decide) (fun z12 tz12 => ?_)
    exact s_iret C X dX10_list_8 ⟨hI, Fr.rf⟩
set_option maxRecDepth 100000 in
theorem L_count3 (l : Launch) (ad : Nat → Nat) (E : Ev) (σ : Sg) (hI : IM σ.1) (wh : Int32) (mk : Int32) (C : Cx E l (rmk 1) 6 cX10_count RX10) (X : Rx E ad (some .int) (oI (fun r τ => τ = σ ∧ True)))  : ∀ (n : Nat) (c1 : Int32) (c2 : Int32) (z : Int32), (0 ≤ z.toInt) → (3 - z.toInt).toNat < n → WP E ad 60 [some (.ref (ad 71)), some (.int wh), some (.int mk), some (.int c1), some (.int c2), some (.int z)] [] σ := by
  intro n
  induction n with
  | zero => intro c1 c2 z h0 hm9; exact absurd hm9 (Nat.not_lt_zero _)
  | succ n ih =>
    intro c1 c2 z h0 hm9
    refine s_iload C dX10_count_60 rfl ?_
    refine s_iconst C dX10_count_62 (by decide) (fun z1 tz1 => ?_)
    refine s_icmp_ge (tgt := 110) C dX10_count_63 (by decide) (fun q2 => ?_) (fun q2 => ?_)
    · refine s_iload_n C dX10_count_110 rfl ?_
      by_cases hsw : wh.toInt < 0 ∨ 6 < wh.toInt
      · refine s_tblOut (tgt := 179) C dX10_count_111 hsw (by decide) ?_
        refine s_iconst C dX10_count_179 (by decide) (fun z3 tz3 => ?_)
        exact s_iret C X dX10_count_180 ⟨rfl, trivial⟩
      by_cases hs0 : wh.toInt = 0
      · refine s_tblIn (off := 41) (tgt := 152) C dX10_count_111 (by omega) (by omega) (by rw [hs0]; rfl) (by decide) ?_
        refine s_aload_n C dX10_count_152 rfl ?_
        refine s_get (k := 0) (x := (σ.1 71 0)) C y71 fw_X10_9 rfl rfl dX10_count_153 ?_
        exact s_iret C X dX10_count_156 ⟨rfl, trivial⟩
      by_cases hs1 : wh.toInt = 1
      · refine s_tblIn (off := 46) (tgt := 157) C dX10_count_111 (by omega) (by omega) (by rw [hs1]; rfl) (by decide) ?_
        refine s_aload_n C dX10_count_157 rfl ?_
        refine s_get (k := 8) (x := (σ.1 71 8)) C y71 fw_X10_175 rfl rfl dX10_count_158 ?_
        exact s_iret C X dX10_count_161 ⟨rfl, trivial⟩
      by_cases hs2 : wh.toInt = 2
      · refine s_tblIn (off := 51) (tgt := 162) C dX10_count_111 (by omega) (by omega) (by rw [hs2]; rfl) (by decide) ?_
        refine s_aload_n C dX10_count_162 rfl ?_
        refine s_get (k := 10) (x := (σ.1 71 10)) C y71 fw_X10_178 rfl rfl dX10_count_163 ?_
        exact s_iret C X dX10_count_166 ⟨rfl, trivial⟩
      by_cases hs3 : wh.toInt = 3
      · refine s_tblIn (off := 56) (tgt := 167) C dX10_count_111 (by omega) (by omega) (by rw [hs3]; rfl) (by decide) ?_
        refine s_iload_n C dX10_count_167 rfl ?_
        exact s_iret C X dX10_count_168 ⟨rfl, trivial⟩
      by_cases hs4 : wh.toInt = 4
      · refine s_tblIn (off := 58) (tgt := 169) C dX10_count_111 (by omega) (by omega) (by rw [hs4]; rfl) (by decide) ?_
        refine s_iload_n C dX10_count_169 rfl ?_
        exact s_iret C X dX10_count_170 ⟨rfl, trivial⟩
      by_cases hs5 : wh.toInt = 5
      · refine s_tblIn (off := 60) (tgt := 171) C dX10_count_111 (by omega) (by omega) (by rw [hs5]; rfl) (by decide) ?_
        refine s_aload_n C dX10_count_171 rfl ?_
        refine s_get (k := 17) (x := (σ.1 71 17)) C y71 fw_X10_247 rfl rfl dX10_count_172 ?_
        exact s_iret C X dX10_count_175 ⟨rfl, trivial⟩
      by_cases hs6 : wh.toInt = 6
      · refine s_tblIn (off := 65) (tgt := 176) C dX10_count_111 (by omega) (by omega) (by rw [hs6]; rfl) (by decide) ?_
        refine s_iload C dX10_count_176 rfl ?_
        exact s_iret C X dX10_count_178 ⟨rfl, trivial⟩
      omega
    · refine s_iload_n C dX10_count_66 rfl ?_
      refine s_aload_n C dX10_count_67 rfl ?_
      refine s_getr (k := 15) (j := 84) C y71 fw_X10_52 rfl dX10_count_68 ?_
      refine s_iload C dX10_count_71 rfl ?_
      refine s_iald (r := (σ.1 84 z.toNatClampNeg)) C y84 (by omega) rfl dX10_count_73 ?_
      have b4 := hI.tm z.toNatClampNeg
      refine s_if_le (tgt := 81) C dX10_count_74 (by decide) (fun q5 => ?_) (fun q5 => ?_)
      · refine s_iconst C dX10_count_81 (by decide) (fun z6 tz6 => ?_)
        refine s_iaddU C dX10_count_82 (fun z7 tz7 => ?_)
        refine s_istore_n C dX10_count_83 (by decide) (Nat.le_of_ble_eq_true rfl) rfl ?_
        show WP E ad 84 [some (.ref (ad 71)), some (.int wh), some (.int mk), some (.int z7), some (.int c2), some (.int z)] [] σ
        refine s_iload C dX10_count_84 rfl ?_
        refine s_aload_n C dX10_count_86 rfl ?_
        refine s_getr (k := 19) (j := 87) C y71 fw_X10_61 rfl dX10_count_87 ?_
        refine s_iload C dX10_count_90 rfl ?_
        refine s_iald (r := (σ.1 87 z.toNatClampNeg)) C y87 (by omega) rfl dX10_count_92 ?_
        have b8 := hI.ls z.toNatClampNeg
        refine s_if_lt (tgt := 100) C dX10_count_93 (by decide) (fun q9 => ?_) (fun q9 => ?_)
        · refine s_iconst C dX10_count_100 (by decide) (fun z10 tz10 => ?_)
          refine s_iaddU C dX10_count_101 (fun z11 tz11 => ?_)
          refine s_istore C dX10_count_102 (by decide) (Nat.le_of_ble_eq_true rfl) rfl ?_
          show WP E ad 104 [some (.ref (ad 71)), some (.int wh), some (.int mk), some (.int z7), some (.int z11), some (.int z)] [] σ
          refine s_iinc C dX10_count_104 rfl (by decide) rfl (by decide) (by omega) (fun z12 tz12 => ?_)
          show WP E ad 107 [some (.ref (ad 71)), some (.int wh), some (.int mk), some (.int z7), some (.int z11), some (.int z12)] [] σ
          refine s_goto (tgt := 60) C dX10_count_107 (by decide) ?_
          exact ih z7 z11 z12 (by omega) (by omega)
        · refine s_iconst C dX10_count_96 (by decide) (fun z13 tz13 => ?_)
          refine s_goto (tgt := 101) C dX10_count_97 (by decide) ?_
          refine s_iaddU C dX10_count_101 (fun z14 tz14 => ?_)
          refine s_istore C dX10_count_102 (by decide) (Nat.le_of_ble_eq_true rfl) rfl ?_
          show WP E ad 104 [some (.ref (ad 71)), some (.int wh), some (.int mk), some (.int z7), some (.int z14), some (.int z)] [] σ
          refine s_iinc C dX10_count_104 rfl (by decide) rfl (by decide) (by omega) (fun z15 tz15 => ?_)
          show WP E ad 107 [some (.ref (ad 71)), some (.int wh), some (.int mk), some (.int z7), some (.int z14), some (.int z15)] [] σ
          refine s_goto (tgt := 60) C dX10_count_107 (by decide) ?_
          exact ih z7 z14 z15 (by omega) (by omega)
      · refine s_iconst C dX10_count_77 (by decide) (fun z16 tz16 => ?_)
        refine s_goto (tgt := 82) C dX10_count_78 (by decide) ?_
        refine s_iaddU C dX10_count_82 (fun z17 tz17 => ?_)
        refine s_istore_n C dX10_count_83 (by decide) (Nat.le_of_ble_eq_true rfl) rfl ?_
        show WP E ad 84 [some (.ref (ad 71)), some (.int wh), some (.int mk), some (.int z17), some (.int c2), some (.int z)] [] σ
        refine s_iload C dX10_count_84 rfl ?_
        refine s_aload_n C dX10_count_86 rfl ?_
        refine s_getr (k := 19) (j := 87) C y71 fw_X10_61 rfl dX10_count_87 ?_
        refine s_iload C dX10_count_90 rfl ?_
        refine s_iald (r := (σ.1 87 z.toNatClampNeg)) C y87 (by omega) rfl dX10_count_92 ?_
        have b18 := hI.ls z.toNatClampNeg
        refine s_if_lt (tgt := 100) C dX10_count_93 (by decide) (fun q19 => ?_) (fun q19 => ?_)
        · refine s_iconst C dX10_count_100 (by decide) (fun z20 tz20 => ?_)
          refine s_iaddU C dX10_count_101 (fun z21 tz21 => ?_)
          refine s_istore C dX10_count_102 (by decide) (Nat.le_of_ble_eq_true rfl) rfl ?_
          show WP E ad 104 [some (.ref (ad 71)), some (.int wh), some (.int mk), some (.int z17), some (.int z21), some (.int z)] [] σ
          refine s_iinc C dX10_count_104 rfl (by decide) rfl (by decide) (by omega) (fun z22 tz22 => ?_)
          show WP E ad 107 [some (.ref (ad 71)), some (.int wh), some (.int mk), some (.int z17), some (.int z21), some (.int z22)] [] σ
          refine s_goto (tgt := 60) C dX10_count_107 (by decide) ?_
          exact ih z17 z21 z22 (by omega) (by omega)
        · refine s_iconst C dX10_count_96 (by decide) (fun z23 tz23 => ?_)
          refine s_goto (tgt := 101) C dX10_count_97 (by decide) ?_
          refine s_iaddU C dX10_count_101 (fun z24 tz24 => ?_)
          refine s_istore C dX10_count_102 (by decide) (Nat.le_of_ble_eq_true rfl) rfl ?_
          show WP E ad 104 [some (.ref (ad 71)), some (.int wh), some (.int mk), some (.int z17), some (.int z24), some (.int z)] [] σ
          refine s_iinc C dX10_count_104 rfl (by decide) rfl (by decide) (by omega) (fun z25 tz25 => ?_)
          show WP E ad 107 [some (.ref (ad 71)), some (.int wh), some (.int mk), some (.int z17), some (.int z24), some (.int z25)] [] σ
          refine s_goto (tgt := 60) C dX10_count_107 (by decide) ?_
          exact ih z17 z24 z25 (by omega) (by omega)
set_option maxRecDepth 100000 in
theorem L_count2 (l : Launch) (ad : Nat → Nat) (E : Ev) (σ : Sg) (hI : IM σ.1) (wh : Int32) (p : Int32) (hp : 0 ≤ p.toInt ∧ p.toInt ≤ 3) (C : Cx E l (rmk 1) 6 cX10_count RX10) (X : Rx E ad (some .int) (oI (fun r τ => τ = σ ∧ True))) (K : ∀ mk q : Int32, q.toInt = p.toInt + 1 → WP E ad 4 [some (.ref (ad 71)), some (.int wh), some (.int mk), some (.int q), none, none] [] σ) : ∀ (n : Nat) (mk : Int32) (z : Int32), (1 ≤ z.toInt) → (6 - z.toInt).toNat < n → WP E ad 15 [some (.ref (ad 71)), some (.int wh), some (.int mk), some (.int p), some (.int z), none] [] σ := by
  intro n
  induction n with
  | zero => intro mk z h0 hm9; exact absurd hm9 (Nat.not_lt_zero _)
  | succ n ih =>
    intro mk z h0 hm9
    refine s_iload C dX10_count_15 rfl ?_
    refine s_aload_n C dX10_count_17 rfl ?_
    refine s_getr (k := 2) (j := 73) C y71 fw_X10_19 rfl dX10_count_18 ?_
    refine s_iload_n C dX10_count_21 rfl ?_
    refine s_iald (r := (σ.1 73 p.toNatClampNeg)) C y73 (by omega) rfl dX10_count_22 ?_
    have b1 := hI.ev p.toNatClampNeg
    refine s_icmp_gt (tgt := 46) C dX10_count_23 (by decide) (fun q2 => ?_) (fun q2 => ?_)
    · refine s_iinc C dX10_count_46 rfl (by decide) rfl (by decide) (by omega) (fun z3 tz3 => ?_)
      show WP E ad 49 [some (.ref (ad 71)), some (.int wh), some (.int mk), some (.int z3), some (.int z), none] [] σ
      refine s_goto (tgt := 4) C dX10_count_49 (by decide) ?_
      refine wp_le (lv' := [some (.ref (ad 71)), some (.int wh), some (.int mk), some (.int z3), none, none]) ⟨rfl, ⟨rfl, ⟨rfl, ⟨rfl, trivial⟩⟩⟩⟩ ?_
      exact K mk z3 (by omega)
    · refine s_iload_n C dX10_count_26 rfl ?_
      refine s_aload_n C dX10_count_27 rfl ?_
      refine s_getr (k := 6) (j := 77) C y71 fw_X10_31 rfl dX10_count_28 ?_
      refine s_iload_n C dX10_count_31 rfl ?_
      refine s_iload C dX10_count_32 rfl ?_
      refine s_callSI (st := [.ref (ad 77), .int mk]) C (c_X10_at l ad σ p z (by omega) (by omega)) cv_X10_189 rfl rfl ⟨by decide, by decide⟩ (Nat.le_of_ble_eq_true rfl) dX10_count_34 ?_
      intro r4 τ5 h6
      obtain ⟨eh6, h6⟩ := h6; replace eh6 := eh6.symm; subst eh6
      refine s_iald (r := (σ.1 77 r4.toNatClampNeg)) C y77 (by omega) rfl dX10_count_37 ?_
      refine s_iaddU C dX10_count_38 (fun z7 tz7 => ?_)
      refine s_istore_n C dX10_count_39 (by decide) (Nat.le_of_ble_eq_true rfl) rfl ?_
      show WP E ad 40 [some (.ref (ad 71)), some (.int wh), some (.int z7), some (.int p), some (.int z), none] [] σ
      refine s_iinc C dX10_count_40 rfl (by decide) rfl (by decide) (by omega) (fun z8 tz8 => ?_)
      show WP E ad 43 [some (.ref (ad 71)), some (.int wh), some (.int z7), some (.int p), some (.int z8), none] [] σ
      refine s_goto (tgt := 15) C dX10_count_43 (by decide) ?_
      exact ih z7 z8 (by omega) (by omega)
set_option maxRecDepth 100000 in
theorem L_count1 (l : Launch) (ad : Nat → Nat) (E : Ev) (σ : Sg) (hI : IM σ.1) (wh : Int32) (C : Cx E l (rmk 1) 6 cX10_count RX10) (X : Rx E ad (some .int) (oI (fun r τ => τ = σ ∧ True)))  : ∀ (n : Nat) (mk : Int32) (z : Int32), (0 ≤ z.toInt) → (4 - z.toInt).toNat < n → WP E ad 4 [some (.ref (ad 71)), some (.int wh), some (.int mk), some (.int z), none, none] [] σ := by
  intro n
  induction n with
  | zero => intro mk z h0 hm9; exact absurd hm9 (Nat.not_lt_zero _)
  | succ n ih =>
    intro mk z h0 hm9
    have hpr := hI.pr
    refine s_iload_n C dX10_count_4 rfl ?_
    refine s_aload_n C dX10_count_5 rfl ?_
    refine s_get (k := 0) (x := (σ.1 71 0)) C y71 fw_X10_9 rfl rfl dX10_count_6 ?_
    refine s_icmp_ge (tgt := 52) C dX10_count_9 (by decide) (fun q1 => ?_) (fun q1 => ?_)
    · refine s_iconst C dX10_count_52 (by decide) (fun z2 tz2 => ?_)
      refine s_istore_n C dX10_count_53 (by decide) (Nat.le_of_ble_eq_true rfl) rfl ?_
      show WP E ad 54 [some (.ref (ad 71)), some (.int wh), some (.int mk), some (.int z2), none, none] [] σ
      refine s_iconst C dX10_count_54 (by decide) (fun z3 tz3 => ?_)
      refine s_istore C dX10_count_55 (by decide) (Nat.le_of_ble_eq_true rfl) rfl ?_
      show WP E ad 57 [some (.ref (ad 71)), some (.int wh), some (.int mk), some (.int z2), some (.int z3), none] [] σ
      refine s_iconst C dX10_count_57 (by decide) (fun z4 tz4 => ?_)
      refine s_istore C dX10_count_58 (by decide) (Nat.le_of_ble_eq_true rfl) rfl ?_
      show WP E ad 60 [some (.ref (ad 71)), some (.int wh), some (.int mk), some (.int z2), some (.int z3), some (.int z4)] [] σ
      exact L_count3 l ad E σ hI wh mk C X 100 z2 z3 z4 (by omega) (by omega)
    · refine s_iconst C dX10_count_12 (by decide) (fun z5 tz5 => ?_)
      refine s_istore C dX10_count_13 (by decide) (Nat.le_of_ble_eq_true rfl) rfl ?_
      show WP E ad 15 [some (.ref (ad 71)), some (.int wh), some (.int mk), some (.int z), some (.int z5), none] [] σ
      exact L_count2 l ad E σ hI wh z (by have := hI.pr; omega) C X (fun mk q hq => ih mk q (by omega) (by omega)) 100 mk z5 (by omega) (by omega)
set_option maxRecDepth 100000 in
theorem c_X10_count (l : Launch) (ad : Nat → Nat) (σ : Sg) (wh : Int32) (hI : IM σ.1) : Mt l yX10_count cX10_count 6 (some .int) 1 ad σ [.ref (ad 71), .int wh] (oI (fun r τ => τ = σ ∧ True)) := by
  refine Mt_intro (by decide +kernel) (by simp [lg_sl, Value.category]) (fun E C X => ?_)
  show WP E ad 0 [some (.ref (ad 71)), some (.int wh), none, none, none, none] [] σ
  refine s_iconst C dX10_count_0 (by decide) (fun z1 tz1 => ?_)
  refine s_istore_n C dX10_count_1 (by decide) (Nat.le_of_ble_eq_true rfl) rfl ?_
  show WP E ad 2 [some (.ref (ad 71)), some (.int wh), some (.int z1), none, none, none] [] σ
  refine s_iconst C dX10_count_2 (by decide) (fun z2 tz2 => ?_)
  refine s_istore_n C dX10_count_3 (by decide) (Nat.le_of_ble_eq_true rfl) rfl ?_
  show WP E ad 4 [some (.ref (ad 71)), some (.int wh), some (.int z1), some (.int z2), none, none] [] σ
  exact L_count1 l ad E σ hI wh C X 100 z1 z2 (by omega) (by omega)
