theorem now_st {f : Nat → Int32} {z z' v : Int32} (h : ∀ q : Nat, (q : Int) < z.toInt → 0 ≤ (f q).toInt ∧ (f q).toInt ≤ 5) (hz : 0 ≤ z.toInt) (hz' : z'.toInt = z.toInt + 1) (hv : 0 ≤ v.toInt ∧ v.toInt ≤ 5) : ∀ q : Nat, (q : Int) < z'.toInt → 0 ≤ (upd f z.toNatClampNeg v q).toInt ∧ (upd f z.toNatClampNeg v q).toInt ≤ 5 := by
  intro q hq
  by_cases e : q = z.toNatClampNeg
  · rw [e, pk_us]; exact hv
  · rw [pk_un e]
    exact h q (by unfold Int32.toNatClampNeg at e; omega)
/-- a row beyond its end may be taken as 0 -/
theorem wp_cut {E : Ev} {ad : Nat → Nat} {pc : Nat} {lv : List (Option Value)} {st : List Value} {τ : Sg} {i n b : Nat} (y : lay[i]? = some (.inl (0, n, b))) (k : WP E ad pc lv st (sR τ i (fun j => if j < n then τ.1 i j else 0))) : WP E ad pc lv st τ := by
  have h := wp_row (f := τ.1 i) (g := fun j => if j < n then τ.1 i j else 0) y (fun j hj => (if_pos hj).symm) k
  rw [sR_self] at h
  exact h
theorem cut_b {f : Nat → Int32} {n : Nat} (h : ∀ q : Nat, (q : Int) < n → 0 ≤ (f q).toInt ∧ (f q).toInt ≤ 5) : ∀ q, 0 ≤ (if q < n then f q else 0 : Int32).toInt ∧ (if q < n then f q else 0 : Int32).toInt ≤ 5 := by
  intro q
  by_cases e : q < n
  · rw [if_pos e]; exact h q (by omega)
  · rw [if_neg e]; decide
set_option maxRecDepth 100000 in
theorem E_both87 (l : Launch) (ad : Nat → Nat) (E : Ev) (σ t0 : Sg) (hF0 : Fr [103, 104, 105, 106] [(71, 39), (71, 40)] σ t0) (hI : IM t0.1) (τ : Sg) (C : Cx E l (rmk 4) 7 cX10_both RX10) (X : Rx E ad (some .int) (oI (fun r τ => IM τ.1 ∧ Fr [103, 104, 105, 106] [(71, 39), (71, 40)] σ τ ∧ True)))  (kF : Fr [106] [] t0 τ) (kn : ∀ q, 0 ≤ (τ.1 106 q).toInt ∧ (τ.1 106 q).toInt ≤ 5) : WP E ad 87 [some (.ref (ad 71)), none, none, none, none, none, none] [] τ := by
  have e0 : (τ.1 71 0).toInt = (t0.1 71 0).toInt := congrArg Int32.toInt (kF.f 71 0 (by decide) (by decide))
  have hpr := hI.pr
  refine s_aload_n C dX10_both_87 rfl ?_
  refine s_getr (k := 43) (j := 105) C y71 fw_X10_116 rfl dX10_both_88 ?_
  refine s_aload_n C dX10_both_91 rfl ?_
  refine s_callVI (st := [.ref (ad 105)]) C (c_X10_digitsNow l ad τ (by omega) kn) cv_X10_215 y71 rfl rfl rfl ⟨by decide, by decide⟩ (Nat.le_of_ble_eq_true rfl) dX10_both_92 ?_
  intro r1 τ2 h3
  obtain ⟨eh3, h3⟩ := h3; replace eh3 := eh3.symm; subst eh3
  refine s_iald (r := (τ.1 105 r1.toNatClampNeg)) C y105 (by omega) rfl dX10_both_95 ?_
  exact s_iret C X dX10_both_96 ⟨IM.keep hI kF (by decide) (by decide) (by decide), hF0.tr (kF.mo (by decide) (by decide)), trivial⟩
set_option maxRecDepth 100000 in
theorem L_both (l : Launch) (ad : Nat → Nat) (E : Ev) (σ t0 : Sg) (hF0 : Fr [103, 104, 105, 106] [(71, 39), (71, 40)] σ t0) (hI : IM t0.1) (hL : ¬ (t0.1 71 39).toInt = 0) (i j k : Int32) (hi : 0 ≤ i.toInt ∧ i.toInt ≤ 1295) (hj : 0 ≤ j.toInt ∧ j.toInt ≤ 1295) (C : Cx E l (rmk 4) 7 cX10_both RX10) (X : Rx E ad (some .int) (oI (fun r τ => IM τ.1 ∧ Fr [103, 104, 105, 106] [(71, 39), (71, 40)] σ τ ∧ True)))  : ∀ (n : Nat) (τ : Sg) (z : Int32), (Fr [106] [] t0 τ) → (∀ q : Nat, (q : Int) < z.toInt → 0 ≤ (τ.1 106 q).toInt ∧ (τ.1 106 q).toInt ≤ 5) → (0 ≤ z.toInt ∧ z.toInt ≤ 4) → (4 - z.toInt).toNat < n → WP E ad 21 [some (.ref (ad 71)), some (.int i), some (.int j), some (.int k), some (.int z), none, none] [] τ := by
  intro n
  induction n with
  | zero => intro τ z kF kn h0 hm9; exact absurd hm9 (Nat.not_lt_zero _)
  | succ n ih =>
    intro τ z kF kn h0 hm9
    have e104 : τ.1 104 = t0.1 104 := kF.a 104 (by decide) (by decide)
    have hcm : ∀ q, 0 ≤ (τ.1 104 q).toInt ∧ (τ.1 104 q).toInt ≤ 5 := by rw [e104]; exact hI.cu.2.1
    have e0 : (τ.1 71 0).toInt = (t0.1 71 0).toInt := congrArg Int32.toInt (kF.f 71 0 (by decide) (by decide))
    have hpr := hI.pr
    refine s_iload C dX10_both_21 rfl ?_
    refine s_iconst C dX10_both_23 (by decide) (fun z1 tz1 => ?_)
    refine s_icmp_ge (tgt := 87) C dX10_both_24 (by decide) (fun q2 => ?_) (fun q2 => ?_)
    · refine wp_le (lv' := [some (.ref (ad 71)), none, none, none, none, none, none]) ⟨rfl, trivial⟩ ?_
      refine wp_cut (i := 106) y106 ?_
      exact E_both87 l ad E σ t0 hF0 hI (sR τ 106 (fun j => if j < 4 then τ.1 106 j else 0)) C X (Fr.sR kF (by decide)) (cut_b (fun q hq => kn q (by omega)))
    · refine s_aload_n C dX10_both_27 rfl ?_
      refine s_getr (k := 42) (j := 104) C y71 fw_X10_113 rfl dX10_both_28 ?_
      refine s_iconst C dX10_both_31 (by decide) (fun z3 tz3 => ?_)
      refine s_iload_n C dX10_both_32 rfl ?_
      refine s_imulL C tz3 dX10_both_33 (by omega) (fun z4 tz4 => ?_)
      refine s_iload C dX10_both_34 rfl ?_
      refine s_iadd C dX10_both_36 (by omega) (fun z5 tz5 => ?_)
      refine s_iald (r := (τ.1 104 z5.toNatClampNeg)) C y104 (by omega) rfl dX10_both_37 ?_
      have b6 := hcm z5.toNatClampNeg
      refine s_istore C dX10_both_38 (by decide) (Nat.le_of_ble_eq_true rfl) rfl ?_
      show WP E ad 40 [some (.ref (ad 71)), some (.int i), some (.int j), some (.int k), some (.int z), some (.int (τ.1 104 z5.toNatClampNeg)), none] [] τ
      refine s_aload_n C dX10_both_40 rfl ?_
      refine s_getr (k := 42) (j := 104) C y71 fw_X10_113 rfl dX10_both_41 ?_
      refine s_iconst C dX10_both_44 (by decide) (fun z7 tz7 => ?_)
      refine s_iload_n C dX10_both_45 rfl ?_
      refine s_imulL C tz7 dX10_both_46 (by omega) (fun z8 tz8 => ?_)
      refine s_iload C dX10_both_47 rfl ?_
      refine s_iadd C dX10_both_49 (by omega) (fun z9 tz9 => ?_)
      refine s_iald (r := (τ.1 104 z9.toNatClampNeg)) C y104 (by omega) rfl dX10_both_50 ?_
      have b10 := hcm z9.toNatClampNeg
      refine s_istore C dX10_both_51 (by decide) (Nat.le_of_ble_eq_true rfl) rfl ?_
      show WP E ad 53 [some (.ref (ad 71)), some (.int i), some (.int j), some (.int k), some (.int z), some (.int (τ.1 104 z5.toNatClampNeg)), some (.int (τ.1 104 z9.toNatClampNeg))] [] τ
      refine s_aload_n C dX10_both_53 rfl ?_
      refine s_getr (k := 44) (j := 106) C y71 fw_X10_119 rfl dX10_both_54 ?_
      refine s_iload C dX10_both_57 rfl ?_
      refine s_iload_n C dX10_both_59 rfl ?_
      refine s_if_eq (tgt := 73) C dX10_both_60 (by decide) (fun q11 => ?_) (fun q11 => ?_)
      · refine s_iload C dX10_both_73 rfl ?_
        refine s_iload C dX10_both_75 rfl ?_
        refine s_mmax (idx := 193) C (mw 1207 (by decide +kernel) rfl) (mw 1208 (by decide +kernel) rfl) (mw 73 (by decide +kernel) rfl) (mw 1209 (by decide +kernel) rfl) (by decide) (Nat.le_of_ble_eq_true rfl) dX10_both_77 (fun z12 tz12 => ?_)
        refine s_iast C y106 (by omega) dX10_both_80 ?_
        refine s_iinc C dX10_both_81 rfl (by decide) rfl (by decide) (by omega) (fun z13 tz13 => ?_)
        show WP E ad 84 [some (.ref (ad 71)), some (.int i), some (.int j), some (.int k), some (.int z13), some (.int (τ.1 104 z5.toNatClampNeg)), some (.int (τ.1 104 z9.toNatClampNeg))] [] (sV τ 106 z.toNatClampNeg z12)
        refine s_goto (tgt := 21) C dX10_both_84 (by decide) ?_
        refine wp_le (lv' := [some (.ref (ad 71)), some (.int i), some (.int j), some (.int k), some (.int z13), none, none]) ⟨rfl, ⟨rfl, ⟨rfl, ⟨rfl, ⟨rfl, trivial⟩⟩⟩⟩⟩ ?_
        exact ih (sV τ 106 z.toNatClampNeg z12) z13 (Fr.sV (Fr.tr Fr.rf (Fr.mo kF (by decide) (by decide))) (Or.inl (by decide))) (now_st kn (by omega) (by omega) (by omega)) (by omega) (by omega)
      · refine s_iload C dX10_both_63 rfl ?_
        refine s_iload C dX10_both_65 rfl ?_
        refine s_mmin (idx := 232) C (mw 1295 (by decide +kernel) rfl) (mw 927 (by decide +kernel) rfl) (mw 73 (by decide +kernel) rfl) (mw 928 (by decide +kernel) rfl) (by decide) (Nat.le_of_ble_eq_true rfl) dX10_both_67 (fun z14 tz14 => ?_)
        refine s_goto (tgt := 80) C dX10_both_70 (by decide) ?_
        refine s_iast C y106 (by omega) dX10_both_80 ?_
        refine s_iinc C dX10_both_81 rfl (by decide) rfl (by decide) (by omega) (fun z15 tz15 => ?_)
        show WP E ad 84 [some (.ref (ad 71)), some (.int i), some (.int j), some (.int k), some (.int z15), some (.int (τ.1 104 z5.toNatClampNeg)), some (.int (τ.1 104 z9.toNatClampNeg))] [] (sV τ 106 z.toNatClampNeg z14)
        refine s_goto (tgt := 21) C dX10_both_84 (by decide) ?_
        refine wp_le (lv' := [some (.ref (ad 71)), some (.int i), some (.int j), some (.int k), some (.int z15), none, none]) ⟨rfl, ⟨rfl, ⟨rfl, ⟨rfl, ⟨rfl, trivial⟩⟩⟩⟩⟩ ?_
        exact ih (sV τ 106 z.toNatClampNeg z14) z15 (Fr.sV (Fr.tr Fr.rf (Fr.mo kF (by decide) (by decide))) (Or.inl (by decide))) (now_st kn (by omega) (by omega) (by omega)) (by omega) (by omega)
set_option maxRecDepth 100000 in
theorem c_X10_both (l : Launch) (ad : Nat → Nat) (σ : Sg) (i j k : Int32) (hI : IM σ.1) : Mt l yX10_both cX10_both 7 (some .int) 4 ad σ [.ref (ad 71), .int i, .int j, .int k] (oI (fun r τ => IM τ.1 ∧ Fr [103, 104, 105, 106] [(71, 39), (71, 40)] σ τ ∧ True)) := by
  refine Mt_intro (by decide +kernel) (by simp [lg_sl, Value.category]) (fun E C X => ?_)
  show WP E ad 0 [some (.ref (ad 71)), some (.int i), some (.int j), some (.int k), none, none, none] [] σ
  refine s_aload_n C dX10_both_0 rfl ?_
  refine s_iload_n C dX10_both_1 rfl ?_
  refine s_callVI (st := []) C (c_X10_isCut l ad σ i hI) cv_X10_222 y71 rfl rfl rfl ⟨by decide, by decide⟩ (Nat.le_of_ble_eq_true rfl) dX10_both_2 ?_
  intro r1 τ2 h3
  have hIτ2 := h3.1
  have hRτ2 := h3.2.2
  have hLτ2 := h3.2.2.2.1
  have hBτ2 := hIτ2.cu.1
  refine s_if_eq (tgt := 16) C dX10_both_5 (by decide) (fun q4 => ?_) (fun q4 => ?_)
  · refine s_iconst C dX10_both_16 (by decide) (fun z5 tz5 => ?_)
    exact s_iret C X dX10_both_17 ⟨hIτ2, (Fr.tr Fr.rf (Fr.mo h3.2.1 (by decide) (by decide))), trivial⟩
  · refine s_aload_n C dX10_both_8 rfl ?_
    refine s_iload_n C dX10_both_9 rfl ?_
    refine s_callVI (st := []) C (c_X10_isCut l ad τ2 j hIτ2) cv_X10_222 y71 rfl rfl rfl ⟨by decide, by decide⟩ (Nat.le_of_ble_eq_true rfl) dX10_both_10 ?_
    intro r6 τ7 h8
    have hIτ7 := h8.1
    have hRτ7 := h8.2.2
    have hLτ7 := h8.2.2.2.1
    have hBτ7 := hIτ7.cu.1
    refine s_if_ne (tgt := 18) C dX10_both_13 (by decide) (fun q9 => ?_) (fun q9 => ?_)
    · refine s_iconst C dX10_both_18 (by decide) (fun z10 tz10 => ?_)
      refine s_istore C dX10_both_19 (by decide) (Nat.le_of_ble_eq_true rfl) rfl ?_
      show WP E ad 21 [some (.ref (ad 71)), some (.int i), some (.int j), some (.int k), some (.int z10), none, none] [] τ7
      exact L_both l ad E σ τ7 (Fr.tr (Fr.tr Fr.rf (Fr.mo h3.2.1 (by decide) (by decide))) (Fr.mo h8.2.1 (by decide) (by decide))) hIτ7 hLτ7 i j k (by omega) (by omega) C X 100 τ7 z10 Fr.rf (fun q hq => by omega) (by omega) (by omega)
    · refine s_iconst C dX10_both_16 (by decide) (fun z11 tz11 => ?_)
      exact s_iret C X dX10_both_17 ⟨hIτ7, (Fr.tr (Fr.tr Fr.rf (Fr.mo h3.2.1 (by decide) (by decide))) (Fr.mo h8.2.1 (by decide) (by decide))), trivial⟩
set_option maxRecDepth 100000 in
theorem c_X10_meet (l : Launch) (ad : Nat → Nat) (σ : Sg) (i j : Int32) (hI : IM σ.1) : Mt l yX10_meet cX10_meet 3 (some .int) 5 ad σ [.ref (ad 71), .int i, .int j] (oI (fun r τ => IM τ.1 ∧ Fr [103, 104, 105, 106] [(71, 39), (71, 40)] σ τ ∧ True)) := by
  refine Mt_intro (by decide +kernel) (by simp [lg_sl, Value.category]) (fun E C X => ?_)
  show WP E ad 0 [some (.ref (ad 71)), some (.int i), some (.int j)] [] σ
  refine s_aload_n C dX10_meet_0 rfl ?_
  refine s_iload_n C dX10_meet_1 rfl ?_
  refine s_iload_n C dX10_meet_2 rfl ?_
  refine s_iconst C dX10_meet_3 (by decide) (fun z1 tz1 => ?_)
  refine s_callVI (st := []) C (c_X10_both l ad σ i j z1 hI) cv_X10_235 y71 rfl rfl rfl ⟨by decide, by decide⟩ (Nat.le_of_ble_eq_true rfl) dX10_meet_4 ?_
  intro r2 τ3 h4
  have hIτ3 := h4.1
  exact s_iret C X dX10_meet_7 ⟨hIτ3, (Fr.tr Fr.rf (Fr.mo h4.2.1 (by decide) (by decide))), trivial⟩
set_option maxRecDepth 100000 in
theorem c_X10_join (l : Launch) (ad : Nat → Nat) (σ : Sg) (i j : Int32) (hI : IM σ.1) : Mt l yX10_join cX10_join 3 (some .int) 5 ad σ [.ref (ad 71), .int i, .int j] (oI (fun r τ => IM τ.1 ∧ Fr [103, 104, 105, 106] [(71, 39), (71, 40)] σ τ ∧ True)) := by
  refine Mt_intro (by decide +kernel) (by simp [lg_sl, Value.category]) (fun E C X => ?_)
  show WP E ad 0 [some (.ref (ad 71)), some (.int i), some (.int j)] [] σ
  refine s_aload_n C dX10_join_0 rfl ?_
  refine s_iload_n C dX10_join_1 rfl ?_
  refine s_iload_n C dX10_join_2 rfl ?_
  refine s_iconst C dX10_join_3 (by decide) (fun z1 tz1 => ?_)
  refine s_callVI (st := []) C (c_X10_both l ad σ i j z1 hI) cv_X10_235 y71 rfl rfl rfl ⟨by decide, by decide⟩ (Nat.le_of_ble_eq_true rfl) dX10_join_4 ?_
  intro r2 τ3 h4
  have hIτ3 := h4.1
  exact s_iret C X dX10_join_7 ⟨hIτ3, (Fr.tr Fr.rf (Fr.mo h4.2.1 (by decide) (by decide))), trivial⟩
set_option maxRecDepth 100000 in
theorem L_which (l : Launch) (ad : Nat → Nat) (E : Ev) (σ : Sg) (hI : IM σ.1) (d : Int32) (hd : 0 ≤ d.toInt) (C : Cx E l (rmk 3) 4 cX10_which RX10) (X : Rx E ad (some .int) (oI (fun r τ => IM τ.1 ∧ Fr [103, 104, 105, 106] [(71, 39), (71, 40)] σ τ ∧ True)))  : ∀ (n : Nat) (a : Int32) (z : Int32), (0 ≤ a.toInt) → (-1 ≤ z.toInt ∧ z.toInt ≤ 3) → ((((σ.1 71 0).toInt - 1 - z.toInt = 0 ∧ d.toInt ≤ a.toInt) ∨ ((σ.1 71 0).toInt - 1 - z.toInt = 1 ∧ d.toInt ≤ 10 * a.toInt + 5) ∨ ((σ.1 71 0).toInt - 1 - z.toInt = 2 ∧ d.toInt ≤ 100 * a.toInt + 55) ∨ ((σ.1 71 0).toInt - 1 - z.toInt = 3 ∧ d.toInt ≤ 1000 * a.toInt + 555) ∨ ((σ.1 71 0).toInt - 1 - z.toInt = 4 ∧ d.toInt ≤ 10000 * a.toInt + 5555))) → (z.toInt + 1).toNat < n → WP E ad 15 [some (.ref (ad 71)), some (.int d), some (.int a), some (.int z)] [] σ := by
  intro n
  induction n with
  | zero => intro a z ha hz hj hm9; exact absurd hm9 (Nat.not_lt_zero _)
  | succ n ih =>
    intro a z ha hz hj hm9
    have hpr := hI.pr
    refine s_iload_n C dX10_which_15 rfl ?_
    refine s_if_lt (tgt := 45) C dX10_which_16 (by decide) (fun q1 => ?_) (fun q1 => ?_)
    · refine s_iload_n C dX10_which_45 rfl ?_
      refine s_if_le (tgt := 51) C dX10_which_46 (by decide) (fun q2 => ?_) (fun q2 => ?_)
      · refine s_aload_n C dX10_which_51 rfl ?_
        refine s_callVV (st := []) C (c_X10_layCuts l ad σ hI) cv_X10_219 y71 rfl rfl rfl ⟨by decide, by decide⟩ (Nat.le_of_ble_eq_true rfl) dX10_which_52 ?_
        intro τ4 h5
        have hIτ4 := h5.1
        have hLτ4 := h5.2.1
        refine s_aload_n C dX10_which_55 rfl ?_
        refine s_getr (k := 43) (j := 105) C y71 fw_X10_116 rfl dX10_which_56 ?_
        refine s_iload_n C dX10_which_59 rfl ?_
        refine s_iald (r := (τ4.1 105 d.toNatClampNeg)) C y105 (by omega) rfl dX10_which_60 ?_
        exact s_iret C X dX10_which_61 ⟨hIτ4, (Fr.tr Fr.rf (Fr.mo h5.2.2.1 (by decide) (by decide))), trivial⟩
      · refine s_iconst C dX10_which_49 (by decide) (fun z6 tz6 => ?_)
        exact s_iret C X dX10_which_50 ⟨hI, Fr.rf, trivial⟩
    · refine s_iload_n C dX10_which_19 rfl ?_
      refine s_bipush C dX10_which_20 (by decide) (fun z7 tz7 => ?_)
      refine s_irem C tz7 dX10_which_22 (by omega) (by decide) (fun z8 tz8 => ?_)
      refine s_aload_n C dX10_which_23 rfl ?_
      refine s_getr (k := 2) (j := 73) C y71 fw_X10_19 rfl dX10_which_24 ?_
      refine s_iload_n C dX10_which_27 rfl ?_
      refine s_iald (r := (σ.1 73 z.toNatClampNeg)) C y73 (by omega) rfl dX10_which_28 ?_
      have b9 := hI.ev z.toNatClampNeg
      refine s_icmp_le (tgt := 34) C dX10_which_29 (by decide) (fun q10 => ?_) (fun q10 => ?_)
      · refine s_iload_n C dX10_which_34 rfl ?_
        refine s_bipush C dX10_which_35 (by decide) (fun z11 tz11 => ?_)
        refine s_idiv C tz11 dX10_which_37 (by omega) (by decide) (fun z12 tz12 => ?_)
        refine s_istore_n C dX10_which_38 (by decide) (Nat.le_of_ble_eq_true rfl) rfl ?_
        show WP E ad 39 [some (.ref (ad 71)), some (.int d), some (.int z12), some (.int z)] [] σ
        refine s_iinc C dX10_which_39 rfl (by decide) rfl (by decide) (by omega) (fun z13 tz13 => ?_)
        show WP E ad 42 [some (.ref (ad 71)), some (.int d), some (.int z12), some (.int z13)] [] σ
        refine s_goto (tgt := 15) C dX10_which_42 (by decide) ?_
        exact ih z12 z13 (by omega) (by omega) (by omega) (by omega)
      · refine s_iconst C dX10_which_32 (by decide) (fun z14 tz14 => ?_)
        exact s_iret C X dX10_which_33 ⟨hI, Fr.rf, trivial⟩
set_option maxRecDepth 100000 in
theorem c_X10_which (l : Launch) (ad : Nat → Nat) (σ : Sg) (d : Int32) (hI : IM σ.1) : Mt l yX10_which cX10_which 4 (some .int) 3 ad σ [.ref (ad 71), .int d] (oI (fun r τ => IM τ.1 ∧ Fr [103, 104, 105, 106] [(71, 39), (71, 40)] σ τ ∧ True)) := by
  have hpr := hI.pr
  refine Mt_intro (by decide +kernel) (by simp [lg_sl, Value.category]) (fun E C X => ?_)
  show WP E ad 0 [some (.ref (ad 71)), some (.int d), none, none] [] σ
  refine s_iload_n C dX10_which_0 rfl ?_
  refine s_if_ge (tgt := 6) C dX10_which_1 (by decide) (fun q1 => ?_) (fun q1 => ?_)
  · refine s_iload_n C dX10_which_6 rfl ?_
    refine s_istore_n C dX10_which_7 (by decide) (Nat.le_of_ble_eq_true rfl) rfl ?_
    show WP E ad 8 [some (.ref (ad 71)), some (.int d), some (.int d), none] [] σ
    refine s_aload_n C dX10_which_8 rfl ?_
    refine s_get (k := 0) (x := (σ.1 71 0)) C y71 fw_X10_9 rfl rfl dX10_which_9 ?_
    refine s_iconst C dX10_which_12 (by decide) (fun z2 tz2 => ?_)
    refine s_isub C dX10_which_13 (by omega) (fun z3 tz3 => ?_)
    refine s_istore_n C dX10_which_14 (by decide) (Nat.le_of_ble_eq_true rfl) rfl ?_
    show WP E ad 15 [some (.ref (ad 71)), some (.int d), some (.int d), some (.int z3)] [] σ
    exact L_which l ad E σ hI d (by omega) C X 100 d z3 (by omega) (by omega) (by omega) (by omega)
  · refine s_iconst C dX10_which_4 (by decide) (fun z4 tz4 => ?_)
    exact s_iret C X dX10_which_5 ⟨hI, Fr.rf, trivial⟩
