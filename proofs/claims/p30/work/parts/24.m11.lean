set_option maxRecDepth 100000 in
theorem L_levelOf (l : Launch) (ad : Nat → Nat) (E : Ev) (σ : Sg) (i : Int32) (hcm : ∀ j, 0 ≤ (σ.1 104 j).toInt ∧ (σ.1 104 j).toInt ≤ 5) (hi : 0 ≤ i.toInt ∧ i.toInt ≤ 1295) (C : Cx E l (rmk 0) 4 cX10_levelOf RX10) (X : Rx E ad (some .int) (oI (fun r τ => τ = σ ∧ 0 ≤ r.toInt ∧ r.toInt ≤ 20)))  : ∀ (n : Nat) (a : Int32) (z : Int32), (0 ≤ a.toInt ∧ a.toInt ≤ 5 * z.toInt) → (0 ≤ z.toInt ∧ z.toInt ≤ 4) → (4 - z.toInt).toNat < n → WP E ad 4 [some (.ref (ad 71)), some (.int i), some (.int a), some (.int z)] [] σ := by
  intro n
  induction n with
  | zero => intro a z ha h0 hm9; exact absurd hm9 (Nat.not_lt_zero _)
  | succ n ih =>
    intro a z ha h0 hm9
    refine s_iload_n C dX10_levelOf_4 rfl ?_
    refine s_iconst C dX10_levelOf_5 (by decide) (fun z1 tz1 => ?_)
    refine s_icmp_ge (tgt := 28) C dX10_levelOf_6 (by decide) (fun q2 => ?_) (fun q2 => ?_)
    · refine s_iload_n C dX10_levelOf_28 rfl ?_
      exact s_iret C X dX10_levelOf_29 ⟨rfl, by omega⟩
    · refine s_iload_n C dX10_levelOf_9 rfl ?_
      refine s_aload_n C dX10_levelOf_10 rfl ?_
      refine s_getr (k := 42) (j := 104) C y71 fw_X10_113 rfl dX10_levelOf_11 ?_
      refine s_iconst C dX10_levelOf_14 (by decide) (fun z3 tz3 => ?_)
      refine s_iload_n C dX10_levelOf_15 rfl ?_
      refine s_imulL C tz3 dX10_levelOf_16 (by omega) (fun z4 tz4 => ?_)
      refine s_iload_n C dX10_levelOf_17 rfl ?_
      refine s_iadd C dX10_levelOf_18 (by omega) (fun z5 tz5 => ?_)
      refine s_iald (r := (σ.1 104 z5.toNatClampNeg)) C y104 (by omega) rfl dX10_levelOf_19 ?_
      have b6 := hcm z5.toNatClampNeg
      refine s_iadd C dX10_levelOf_20 (by omega) (fun z7 tz7 => ?_)
      refine s_istore_n C dX10_levelOf_21 (by decide) (Nat.le_of_ble_eq_true rfl) rfl ?_
      show WP E ad 22 [some (.ref (ad 71)), some (.int i), some (.int z7), some (.int z)] [] σ
      refine s_iinc C dX10_levelOf_22 rfl (by decide) rfl (by decide) (by omega) (fun z8 tz8 => ?_)
      show WP E ad 25 [some (.ref (ad 71)), some (.int i), some (.int z7), some (.int z8)] [] σ
      refine s_goto (tgt := 4) C dX10_levelOf_25 (by decide) ?_
      exact ih z7 z8 (by omega) (by omega) (by omega)
set_option maxRecDepth 100000 in
theorem c_X10_levelOf (l : Launch) (ad : Nat → Nat) (σ : Sg) (i : Int32) (hcm : ∀ j, 0 ≤ (σ.1 104 j).toInt ∧ (σ.1 104 j).toInt ≤ 5) (hi : 0 ≤ i.toInt ∧ i.toInt ≤ 1295) : Mt l yX10_levelOf cX10_levelOf 4 (some .int) 0 ad σ [.ref (ad 71), .int i] (oI (fun r τ => τ = σ ∧ 0 ≤ r.toInt ∧ r.toInt ≤ 20)) := by
  refine Mt_intro (by decide +kernel) (by simp [lg_sl, Value.category]) (fun E C X => ?_)
  show WP E ad 0 [some (.ref (ad 71)), some (.int i), none, none] [] σ
  refine s_iconst C dX10_levelOf_0 (by decide) (fun z1 tz1 => ?_)
  refine s_istore_n C dX10_levelOf_1 (by decide) (Nat.le_of_ble_eq_true rfl) rfl ?_
  show WP E ad 2 [some (.ref (ad 71)), some (.int i), some (.int z1), none] [] σ
  refine s_iconst C dX10_levelOf_2 (by decide) (fun z2 tz2 => ?_)
  refine s_istore_n C dX10_levelOf_3 (by decide) (Nat.le_of_ble_eq_true rfl) rfl ?_
  show WP E ad 4 [some (.ref (ad 71)), some (.int i), some (.int z1), some (.int z2)] [] σ
  exact L_levelOf l ad E σ i hcm hi C X 100 z1 z2 (by omega) (by omega) (by omega)
set_option maxRecDepth 100000 in
theorem L_nextBy (l : Launch) (ad : Nat → Nat) (E : Ev) (σ : Sg) (i p : Int32) (hI : IM σ.1) (hL : ¬ (σ.1 71 39).toInt = 0) (hi : 0 ≤ i.toInt ∧ i.toInt < (σ.1 71 40).toInt) (hp : 0 ≤ p.toInt ∧ p.toInt < (σ.1 71 0).toInt) (hn : (σ.1 104 (4 * i.toInt.toNat + p.toInt.toNat)).toInt < (σ.1 73 p.toInt.toNat).toInt) (C : Cx E l (rmk 0) 5 cX10_nextBy RX10) (X : Rx E ad (some .int) (oI (fun r τ => τ = σ ∧ ((-5 ≤ r.toInt ∧ r.toInt ≤ 1295) ∧ r.toInt = nx σ.1 i.toInt.toNat p.toInt.toNat) ∧ (0 ≤ r.toInt → r.toInt < (σ.1 71 40).toInt ∧ i.toInt < r.toInt ∧ ∀ q : Nat, q < 4 → (σ.1 104 (4 * r.toInt.toNat + q)).toInt = (σ.1 104 (4 * i.toInt.toNat + q)).toInt + (if q = p.toInt.toNat then 1 else 0)))))  : ∀ (n : Nat) (b : Int32) (z : Int32), (b.toInt = (10 : Int) ^ (z.toInt.toNat - 1 - p.toInt.toNat)) → (p.toInt + 1 ≤ z.toInt ∧ z.toInt ≤ (σ.1 71 0).toInt) → (4 - z.toInt).toNat < n → WP E ad 29 [some (.ref (ad 71)), some (.int i), some (.int p), some (.int b), some (.int z)] [] σ := by
  intro n
  induction n with
  | zero => intro b z hb h0 hm9; exact absurd hm9 (Nat.not_lt_zero _)
  | succ n ih =>
    intro b z hb h0 hm9
    have hpr := hI.pr
    have hcb := hI.cu.1
    have hpw := pw_b (e := z.toInt.toNat - 1 - p.toInt.toNat) (by omega)
    refine s_iload C dX10_nextBy_29 rfl ?_
    refine s_aload_n C dX10_nextBy_31 rfl ?_
    refine s_get (k := 0) (x := (σ.1 71 0)) C y71 fw_X10_9 rfl rfl dX10_nextBy_32 ?_
    refine s_icmp_ge (tgt := 49) C dX10_nextBy_35 (by decide) (fun q1 => ?_) (fun q1 => ?_)
    · have hcd := hI.cu.2.2.1 i.toNatClampNeg
      have hnx := cu_next hI hL (i := i.toInt.toNat) (P := p.toInt.toNat) (by omega) (by omega) hn
      have ez : (σ.1 71 0).toInt.toNat = z.toInt.toNat := by omega
      rw [ez, ← hb] at hnx
      have hcdi : (σ.1 103 i.toNatClampNeg).toInt = (σ.1 103 i.toInt.toNat).toInt := rfl
      have hnx1 := hnx.1
      refine s_aload_n C dX10_nextBy_49 rfl ?_
      refine s_getr (k := 43) (j := 105) C y71 fw_X10_116 rfl dX10_nextBy_50 ?_
      refine s_aload_n C dX10_nextBy_53 rfl ?_
      refine s_getr (k := 41) (j := 103) C y71 fw_X10_110 rfl dX10_nextBy_54 ?_
      refine s_iload_n C dX10_nextBy_57 rfl ?_
      refine s_iald (r := (σ.1 103 i.toNatClampNeg)) C y103 (by omega) rfl dX10_nextBy_58 ?_
      refine s_iload_n C dX10_nextBy_59 rfl ?_
      refine s_iadd C dX10_nextBy_60 (by omega) (fun z2 tz2 => ?_)
      refine s_iald (r := (σ.1 105 z2.toNatClampNeg)) C y105 (by omega) rfl dX10_nextBy_61 ?_
      exact s_iret C X dX10_nextBy_62 ⟨rfl, ⟨hI.cu.2.2.2.1 _, by unfold nx; rw [if_neg (by omega), ez, ← hb, show ((σ.1 103 i.toInt.toNat).toInt + b.toInt).toNat = z2.toNatClampNeg by unfold Int32.toNatClampNeg; omega]⟩, fun h0 => by have h2 := hnx.2 z2.toNatClampNeg (by unfold Int32.toNatClampNeg; omega) h0; refine ⟨h2.1, by omega, h2.2.2⟩⟩
    · refine s_iload_n C dX10_nextBy_38 rfl ?_
      refine s_bipush C dX10_nextBy_39 (by decide) (fun z3 tz3 => ?_)
      refine s_imulR C tz3 dX10_nextBy_41 (by omega) (fun z4 tz4 => ?_)
      refine s_istore_n C dX10_nextBy_42 (by decide) (Nat.le_of_ble_eq_true rfl) rfl ?_
      show WP E ad 43 [some (.ref (ad 71)), some (.int i), some (.int p), some (.int z4), some (.int z)] [] σ
      refine s_iinc C dX10_nextBy_43 rfl (by decide) rfl (by decide) (by omega) (fun z5 tz5 => ?_)
      show WP E ad 46 [some (.ref (ad 71)), some (.int i), some (.int p), some (.int z4), some (.int z5)] [] σ
      refine s_goto (tgt := 29) C dX10_nextBy_46 (by decide) ?_
      exact ih z4 z5 (by rw [pw_s (show z5.toInt.toNat - 1 - p.toInt.toNat = z.toInt.toNat - 1 - p.toInt.toNat + 1 by omega), ← hb]; omega) (by omega) (by omega)
set_option maxRecDepth 100000 in
theorem c_X10_nextBy (l : Launch) (ad : Nat → Nat) (σ : Sg) (i p : Int32) (hI : IM σ.1) (hL : ¬ (σ.1 71 39).toInt = 0) (hi : 0 ≤ i.toInt ∧ i.toInt < (σ.1 71 40).toInt) (hp : 0 ≤ p.toInt ∧ p.toInt < (σ.1 71 0).toInt) : Mt l yX10_nextBy cX10_nextBy 5 (some .int) 0 ad σ [.ref (ad 71), .int i, .int p] (oI (fun r τ => τ = σ ∧ ((-5 ≤ r.toInt ∧ r.toInt ≤ 1295) ∧ r.toInt = nx σ.1 i.toInt.toNat p.toInt.toNat) ∧ (0 ≤ r.toInt → r.toInt < (σ.1 71 40).toInt ∧ i.toInt < r.toInt ∧ ∀ q : Nat, q < 4 → (σ.1 104 (4 * r.toInt.toNat + q)).toInt = (σ.1 104 (4 * i.toInt.toNat + q)).toInt + (if q = p.toInt.toNat then 1 else 0)))) := by
  refine Mt_intro (by decide +kernel) (by simp [lg_sl, Value.category]) (fun E C X => ?_)
  show WP E ad 0 [some (.ref (ad 71)), some (.int i), some (.int p), none, none] [] σ
  have hpr := hI.pr
  have hcb := hI.cu.1
  refine s_aload_n C dX10_nextBy_0 rfl ?_
  refine s_getr (k := 42) (j := 104) C y71 fw_X10_113 rfl dX10_nextBy_1 ?_
  refine s_iconst C dX10_nextBy_4 (by decide) (fun z1 tz1 => ?_)
  refine s_iload_n C dX10_nextBy_5 rfl ?_
  refine s_imulL C tz1 dX10_nextBy_6 (by omega) (fun z2 tz2 => ?_)
  refine s_iload_n C dX10_nextBy_7 rfl ?_
  refine s_iadd C dX10_nextBy_8 (by omega) (fun z3 tz3 => ?_)
  refine s_iald (r := (σ.1 104 z3.toNatClampNeg)) C y104 (by omega) rfl dX10_nextBy_9 ?_
  refine s_aload_n C dX10_nextBy_10 rfl ?_
  refine s_getr (k := 2) (j := 73) C y71 fw_X10_19 rfl dX10_nextBy_11 ?_
  refine s_iload_n C dX10_nextBy_14 rfl ?_
  refine s_iald (r := (σ.1 73 p.toNatClampNeg)) C y73 (by omega) rfl dX10_nextBy_15 ?_
  refine s_icmp_ne (tgt := 22) C dX10_nextBy_16 (by decide) (fun q4 => ?_) (fun q4 => ?_)
  · refine s_iconst C dX10_nextBy_22 (by decide) (fun z5 tz5 => ?_)
    refine s_istore_n C dX10_nextBy_23 (by decide) (Nat.le_of_ble_eq_true rfl) rfl ?_
    show WP E ad 24 [some (.ref (ad 71)), some (.int i), some (.int p), some (.int z5), none] [] σ
    refine s_iload_n C dX10_nextBy_24 rfl ?_
    refine s_iconst C dX10_nextBy_25 (by decide) (fun z6 tz6 => ?_)
    refine s_iadd C dX10_nextBy_26 (by omega) (fun z7 tz7 => ?_)
    refine s_istore C dX10_nextBy_27 (by decide) (Nat.le_of_ble_eq_true rfl) rfl ?_
    show WP E ad 29 [some (.ref (ad 71)), some (.int i), some (.int p), some (.int z5), some (.int z7)] [] σ
    have hix : z3.toNatClampNeg = 4 * i.toInt.toNat + p.toInt.toNat := by unfold Int32.toNatClampNeg; omega
    have hcup := ((hI.cu.2.2.2.2 hL).2.1 i.toInt.toNat (by omega)).1 p.toInt.toNat (by omega)
    have hne : ¬ (σ.1 104 (4 * i.toInt.toNat + p.toInt.toNat)).toInt = (σ.1 73 p.toInt.toNat).toInt := by rw [← hix]; exact q4
    exact L_nextBy l ad E σ i p hI hL hi hp (by omega) C X 100 z5 z7 (by rw [show z7.toInt.toNat - 1 - p.toInt.toNat = 0 by omega]; show z5.toInt = 1; omega) (by omega) (by omega)
  · refine s_bipush C dX10_nextBy_19 (by decide) (fun z8 tz8 => ?_)
    exact s_iret C X dX10_nextBy_21 ⟨rfl, ⟨by omega, by rw [nx, if_pos (by rw [show 4 * i.toInt.toNat + p.toInt.toNat = z3.toNatClampNeg by unfold Int32.toNatClampNeg; omega]; exact q4)]; omega⟩, fun h => by omega⟩
set_option maxRecDepth 100000 in
theorem c_X10_level (l : Launch) (ad : Nat → Nat) (σ : Sg) (i : Int32) (hI : IM σ.1) : Mt l yX10_level cX10_level 2 (some .int) 4 ad σ [.ref (ad 71), .int i] (oI (fun r τ => IM τ.1 ∧ Fr [103, 104, 105, 106] [(71, 39), (71, 40)] σ τ ∧ True)) := by
  have hpr := hI.pr
  refine Mt_intro (by decide +kernel) (by simp [lg_sl, Value.category]) (fun E C X => ?_)
  show WP E ad 0 [some (.ref (ad 71)), some (.int i)] [] σ
  refine s_aload_n C dX10_level_0 rfl ?_
  refine s_iload_n C dX10_level_1 rfl ?_
  refine s_callVI (st := []) C (c_X10_isCut l ad σ i hI) cv_X10_222 y71 rfl rfl rfl ⟨by decide, by decide⟩ (Nat.le_of_ble_eq_true rfl) dX10_level_2 ?_
  intro r1 τ2 h3
  have hIτ2 := h3.1
  have hRτ2 := h3.2.2
  have hLτ2 := h3.2.2.2.1
  have hBτ2 := hIτ2.cu.1
  refine s_if_eq (tgt := 16) C dX10_level_5 (by decide) (fun q4 => ?_) (fun q4 => ?_)
  · refine s_iconst C dX10_level_16 (by decide) (fun z5 tz5 => ?_)
    exact s_iret C X dX10_level_17 ⟨hIτ2, (Fr.tr Fr.rf (Fr.mo h3.2.1 (by decide) (by decide))), trivial⟩
  · refine s_aload_n C dX10_level_8 rfl ?_
    refine s_iload_n C dX10_level_9 rfl ?_
    refine s_callVI (st := []) C (c_X10_levelOf l ad τ2 i (by exact hIτ2.cu.2.1) (by omega)) cv_X10_225 y71 rfl rfl rfl ⟨by decide, by decide⟩ (Nat.le_of_ble_eq_true rfl) dX10_level_10 ?_
    intro r6 τ7 h8
    obtain ⟨eh8, h8⟩ := h8; replace eh8 := eh8.symm; subst eh8
    refine s_goto (tgt := 17) C dX10_level_13 (by decide) ?_
    exact s_iret C X dX10_level_17 ⟨hIτ2, (Fr.tr Fr.rf (Fr.mo h3.2.1 (by decide) (by decide))), trivial⟩
set_option maxRecDepth 100000 in
theorem L_next (l : Launch) (ad : Nat → Nat) (E : Ev) (σ τ : Sg) (kI : IM τ.1) (kF : Fr [103, 104, 105, 106] [(71, 39), (71, 40)] σ τ) (hL : ¬ (τ.1 71 39).toInt = 0) (i k : Int32) (hi : 0 ≤ i.toInt ∧ i.toInt < (τ.1 71 40).toInt) (C : Cx E l (rmk 4) 5 cX10_next RX10) (X : Rx E ad (some .int) (oI (fun r τ => IM τ.1 ∧ Fr [103, 104, 105, 106] [(71, 39), (71, 40)] σ τ ∧ True)))  : ∀ (n : Nat) (a : Int32) (z : Int32), (0 ≤ z.toInt) → (0 ≤ a.toInt ∧ a.toInt ≤ z.toInt) → (4 - z.toInt).toNat < n → WP E ad 20 [some (.ref (ad 71)), some (.int i), some (.int k), some (.int a), some (.int z)] [] τ := by
  intro n
  induction n with
  | zero => intro a z h0 ha hm9; exact absurd hm9 (Nat.not_lt_zero _)
  | succ n ih =>
    intro a z h0 ha hm9
    have hpr := kI.pr
    refine s_iload C dX10_next_20 rfl ?_
    refine s_aload_n C dX10_next_22 rfl ?_
    refine s_get (k := 0) (x := (τ.1 71 0)) C y71 fw_X10_9 rfl rfl dX10_next_23 ?_
    refine s_icmp_ge (tgt := 61) C dX10_next_26 (by decide) (fun q1 => ?_) (fun q1 => ?_)
    · refine s_iload_n C dX10_next_61 rfl ?_
      refine s_iconst C dX10_next_62 (by decide) (fun z2 tz2 => ?_)
      refine s_icmp_ne (tgt := 70) C dX10_next_63 (by decide) (fun q3 => ?_) (fun q3 => ?_)
      · refine s_iconst C dX10_next_70 (by decide) (fun z4 tz4 => ?_)
        exact s_iret C X dX10_next_71 ⟨kI, kF, trivial⟩
      · refine s_iload_n C dX10_next_66 rfl ?_
        refine s_goto (tgt := 71) C dX10_next_67 (by decide) ?_
        exact s_iret C X dX10_next_71 ⟨kI, kF, trivial⟩
    · refine s_aload_n C dX10_next_29 rfl ?_
      refine s_iload_n C dX10_next_30 rfl ?_
      refine s_iload C dX10_next_31 rfl ?_
      refine s_callVI (st := []) C (c_X10_nextBy l ad τ i z kI hL (by omega) (by omega)) cv_X10_229 y71 rfl rfl rfl ⟨by decide, by decide⟩ (Nat.le_of_ble_eq_true rfl) dX10_next_33 ?_
      intro r5 τ6 h7
      obtain ⟨eh7, h7⟩ := h7; replace eh7 := eh7.symm; subst eh7
      refine s_if_lt (tgt := 55) C dX10_next_36 (by decide) (fun q8 => ?_) (fun q8 => ?_)
      · refine s_iinc C dX10_next_55 rfl (by decide) rfl (by decide) (by omega) (fun z9 tz9 => ?_)
        show WP E ad 58 [some (.ref (ad 71)), some (.int i), some (.int k), some (.int a), some (.int z9)] [] τ
        refine s_goto (tgt := 20) C dX10_next_58 (by decide) ?_
        exact ih a z9 (by omega) (by omega) (by omega)
      · refine s_iload_n C dX10_next_39 rfl ?_
        refine s_iload_n C dX10_next_40 rfl ?_
        refine s_icmp_ne (tgt := 52) C dX10_next_41 (by decide) (fun q10 => ?_) (fun q10 => ?_)
        · refine s_iinc C dX10_next_52 rfl (by decide) rfl (by decide) (by omega) (fun z11 tz11 => ?_)
          show WP E ad 55 [some (.ref (ad 71)), some (.int i), some (.int k), some (.int z11), some (.int z)] [] τ
          refine s_iinc C dX10_next_55 rfl (by decide) rfl (by decide) (by omega) (fun z12 tz12 => ?_)
          show WP E ad 58 [some (.ref (ad 71)), some (.int i), some (.int k), some (.int z11), some (.int z12)] [] τ
          refine s_goto (tgt := 20) C dX10_next_58 (by decide) ?_
          exact ih z11 z12 (by omega) (by omega) (by omega)
        · refine s_aload_n C dX10_next_44 rfl ?_
          refine s_iload_n C dX10_next_45 rfl ?_
          refine s_iload C dX10_next_46 rfl ?_
          refine s_callVI (st := []) C (c_X10_nextBy l ad τ i z kI hL (by omega) (by omega)) cv_X10_229 y71 rfl rfl rfl ⟨by decide, by decide⟩ (Nat.le_of_ble_eq_true rfl) dX10_next_48 ?_
          intro r13 τ14 h15
          obtain ⟨eh15, h15⟩ := h15; replace eh15 := eh15.symm; subst eh15
          exact s_iret C X dX10_next_51 ⟨kI, kF, trivial⟩
set_option maxRecDepth 100000 in
theorem c_X10_next (l : Launch) (ad : Nat → Nat) (σ : Sg) (i : Int32) (k : Int32) (hI : IM σ.1) : Mt l yX10_next cX10_next 5 (some .int) 4 ad σ [.ref (ad 71), .int i, .int k] (oI (fun r τ => IM τ.1 ∧ Fr [103, 104, 105, 106] [(71, 39), (71, 40)] σ τ ∧ True)) := by
  have hpr := hI.pr
  refine Mt_intro (by decide +kernel) (by simp [lg_sl, Value.category]) (fun E C X => ?_)
  show WP E ad 0 [some (.ref (ad 71)), some (.int i), some (.int k), none, none] [] σ
  refine s_aload_n C dX10_next_0 rfl ?_
  refine s_iload_n C dX10_next_1 rfl ?_
  refine s_callVI (st := []) C (c_X10_isCut l ad σ i hI) cv_X10_222 y71 rfl rfl rfl ⟨by decide, by decide⟩ (Nat.le_of_ble_eq_true rfl) dX10_next_2 ?_
  intro r1 τ2 h3
  have hIτ2 := h3.1
  have hRτ2 := h3.2.2
  have hLτ2 := h3.2.2.2.1
  have hBτ2 := hIτ2.cu.1
  refine s_if_eq (tgt := 13) C dX10_next_5 (by decide) (fun q4 => ?_) (fun q4 => ?_)
  · refine s_iconst C dX10_next_13 (by decide) (fun z5 tz5 => ?_)
    exact s_iret C X dX10_next_14 ⟨hIτ2, (Fr.tr Fr.rf (Fr.mo h3.2.1 (by decide) (by decide))), trivial⟩
  · refine s_iload_n C dX10_next_8 rfl ?_
    refine s_iconst C dX10_next_9 (by decide) (fun z6 tz6 => ?_)
    refine s_icmp_ge (tgt := 15) C dX10_next_10 (by decide) (fun q7 => ?_) (fun q7 => ?_)
    · refine s_iconst C dX10_next_15 (by decide) (fun z8 tz8 => ?_)
      refine s_istore_n C dX10_next_16 (by decide) (Nat.le_of_ble_eq_true rfl) rfl ?_
      show WP E ad 17 [some (.ref (ad 71)), some (.int i), some (.int k), some (.int z8), none] [] τ2
      refine s_iconst C dX10_next_17 (by decide) (fun z9 tz9 => ?_)
      refine s_istore C dX10_next_18 (by decide) (Nat.le_of_ble_eq_true rfl) rfl ?_
      show WP E ad 20 [some (.ref (ad 71)), some (.int i), some (.int k), some (.int z8), some (.int z9)] [] τ2
      exact L_next l ad E σ τ2 hIτ2 (Fr.tr Fr.rf (Fr.mo h3.2.1 (by decide) (by decide))) hLτ2 i k (by omega) C X 100 z8 z9 (by omega) (by omega) (by omega)
    · refine s_iconst C dX10_next_13 (by decide) (fun z10 tz10 => ?_)
      exact s_iret C X dX10_next_14 ⟨hIτ2, (Fr.tr Fr.rf (Fr.mo h3.2.1 (by decide) (by decide))), trivial⟩
set_option maxRecDepth 100000 in
theorem c_X10_valueIn (l : Launch) (ad : Nat → Nat) (σ : Sg) (i p : Int32) (hI : IM σ.1) (hi : 0 ≤ i.toInt ∧ i.toInt ≤ 1295) (hp : 0 ≤ p.toInt ∧ p.toInt ≤ 3) : Mt l yX10_valueIn cX10_valueIn 4 (some .int) 1 ad σ [.ref (ad 71), .int i, .int p] (oI (fun r τ => τ = σ ∧ True)) := by
  refine Mt_intro (by decide +kernel) (by simp [lg_sl, Value.category]) (fun E C X => ?_)
  show WP E ad 0 [some (.ref (ad 71)), some (.int i), some (.int p), none] [] σ
  refine s_aload_n C dX10_valueIn_0 rfl ?_
  refine s_getr (k := 42) (j := 104) C y71 fw_X10_113 rfl dX10_valueIn_1 ?_
  refine s_iconst C dX10_valueIn_4 (by decide) (fun z1 tz1 => ?_)
  refine s_iload_n C dX10_valueIn_5 rfl ?_
  refine s_imulL C tz1 dX10_valueIn_6 (by omega) (fun z2 tz2 => ?_)
  refine s_iload_n C dX10_valueIn_7 rfl ?_
  refine s_iadd C dX10_valueIn_8 (by omega) (fun z3 tz3 => ?_)
  refine s_iald (r := (σ.1 104 z3.toNatClampNeg)) C y104 (by omega) rfl dX10_valueIn_9 ?_
  have b4 := hI.cu.2.1 z3.toNatClampNeg
  refine s_istore_n C dX10_valueIn_10 (by decide) (Nat.le_of_ble_eq_true rfl) rfl ?_
  show WP E ad 11 [some (.ref (ad 71)), some (.int i), some (.int p), some (.int (σ.1 104 z3.toNatClampNeg))] [] σ
  refine s_iload_n C dX10_valueIn_11 rfl ?_
  refine s_if_ne (tgt := 24) C dX10_valueIn_12 (by decide) (fun q5 => ?_) (fun q5 => ?_)
  · refine s_aload_n C dX10_valueIn_24 rfl ?_
    refine s_getr (k := 4) (j := 75) C y71 fw_X10_25 rfl dX10_valueIn_25 ?_
    refine s_iload_n C dX10_valueIn_28 rfl ?_
    refine s_iload_n C dX10_valueIn_29 rfl ?_
    refine s_callSI (st := [.ref (ad 75)]) C (c_X10_at l ad σ p ((σ.1 104 z3.toNatClampNeg)) (by omega) (by omega)) cv_X10_189 rfl rfl ⟨by decide, by decide⟩ (Nat.le_of_ble_eq_true rfl) dX10_valueIn_30 ?_
    intro r6 τ7 h8
    obtain ⟨eh8, h8⟩ := h8; replace eh8 := eh8.symm; subst eh8
    refine s_iald (r := (σ.1 75 r6.toNatClampNeg)) C y75 (by omega) rfl dX10_valueIn_33 ?_
    exact s_iret C X dX10_valueIn_34 ⟨rfl, trivial⟩
  · refine s_aload_n C dX10_valueIn_15 rfl ?_
    refine s_getr (k := 1) (j := 72) C y71 fw_X10_15 rfl dX10_valueIn_16 ?_
    refine s_iload_n C dX10_valueIn_19 rfl ?_
    refine s_iald (r := (σ.1 72 p.toNatClampNeg)) C y72 (by omega) rfl dX10_valueIn_20 ?_
    refine s_goto (tgt := 34) C dX10_valueIn_21 (by decide) ?_
    exact s_iret C X dX10_valueIn_34 ⟨rfl, trivial⟩
set_option maxRecDepth 100000 in
theorem c_X10_value (l : Launch) (ad : Nat → Nat) (σ : Sg) (i : Int32) (p : Int32) (hI : IM σ.1) : Mt l yX10_value cX10_value 3 (some .int) 4 ad σ [.ref (ad 71), .int i, .int p] (oI (fun r τ => IM τ.1 ∧ Fr [103, 104, 105, 106] [(71, 39), (71, 40)] σ τ ∧ True)) := by
  have hpr := hI.pr
  refine Mt_intro (by decide +kernel) (by simp [lg_sl, Value.category]) (fun E C X => ?_)
  show WP E ad 0 [some (.ref (ad 71)), some (.int i), some (.int p)] [] σ
  refine s_aload_n C dX10_value_0 rfl ?_
  refine s_iload_n C dX10_value_1 rfl ?_
  refine s_callVI (st := []) C (c_X10_isCut l ad σ i hI) cv_X10_222 y71 rfl rfl rfl ⟨by decide, by decide⟩ (Nat.le_of_ble_eq_true rfl) dX10_value_2 ?_
  intro r1 τ2 h3
  have hIτ2 := h3.1
  have hRτ2 := h3.2.2
  have hLτ2 := h3.2.2.2.1
  have hBτ2 := hIτ2.cu.1
  refine s_if_eq (tgt := 28) C dX10_value_5 (by decide) (fun q4 => ?_) (fun q4 => ?_)
  · refine s_iconst C dX10_value_28 (by decide) (fun z5 tz5 => ?_)
    exact s_iret C X dX10_value_29 ⟨hIτ2, (Fr.tr Fr.rf (Fr.mo h3.2.1 (by decide) (by decide))), trivial⟩
  · refine s_aload_n C dX10_value_8 rfl ?_
    refine s_iload_n C dX10_value_9 rfl ?_
    refine s_callVI (st := []) C (c_X10_isProcess l ad τ2 p (by exact hIτ2.pr)) cv_X10_169 y71 rfl rfl rfl ⟨by decide, by decide⟩ (Nat.le_of_ble_eq_true rfl) dX10_value_10 ?_
    intro r6 τ7 h8
    obtain ⟨eh8, h8⟩ := h8; replace eh8 := eh8.symm; subst eh8
    refine s_if_eq (tgt := 28) C dX10_value_13 (by decide) (fun q9 => ?_) (fun q9 => ?_)
    · refine s_iconst C dX10_value_28 (by decide) (fun z10 tz10 => ?_)
      exact s_iret C X dX10_value_29 ⟨hIτ2, (Fr.tr Fr.rf (Fr.mo h3.2.1 (by decide) (by decide))), trivial⟩
    · have hprt := hIτ2.pr
      refine s_aload_n C dX10_value_16 rfl ?_
      refine s_iload_n C dX10_value_17 rfl ?_
      refine s_iload_n C dX10_value_18 rfl ?_
      refine s_callVI (st := []) C (c_X10_valueIn l ad τ2 i p hIτ2 (by omega) (by omega)) cv_X10_242 y71 rfl rfl rfl ⟨by decide, by decide⟩ (Nat.le_of_ble_eq_true rfl) dX10_value_19 ?_
      intro r11 τ12 h13
      obtain ⟨eh13, h13⟩ := h13; replace eh13 := eh13.symm; subst eh13
      refine s_bipush C dX10_value_22 (by decide) (fun z14 tz14 => ?_)
      refine s_iaddU C dX10_value_24 (fun z15 tz15 => ?_)
      refine s_goto (tgt := 29) C dX10_value_25 (by decide) ?_
      exact s_iret C X dX10_value_29 ⟨hIτ2, (Fr.tr Fr.rf (Fr.mo h3.2.1 (by decide) (by decide))), trivial⟩
set_option maxRecDepth 100000 in
theorem L_underOf (l : Launch) (ad : Nat → Nat) (E : Ev) (σ : Sg) (hI : IM σ.1) (i : Int32) (hi : 0 ≤ i.toInt ∧ i.toInt ≤ 1295) (C : Cx E l (rmk 1) 6 cX10_underOf RX10) (X : Rx E ad (some .int) (oI (fun r τ => τ = σ ∧ True)))  : ∀ (n : Nat) (a : Int32) (z : Int32), (0 ≤ z.toInt) → (8 - z.toInt).toNat < n → WP E ad 4 [some (.ref (ad 71)), some (.int i), some (.int a), some (.int z), none, none] [] σ := by
  intro n
  induction n with
  | zero => intro a z h0 hm9; exact absurd hm9 (Nat.not_lt_zero _)
  | succ n ih =>
    intro a z h0 hm9
    have hms := hI.ms
    refine s_iload_n C dX10_underOf_4 rfl ?_
    refine s_aload_n C dX10_underOf_5 rfl ?_
    refine s_get (k := 10) (x := (σ.1 71 10)) C y71 fw_X10_178 rfl rfl dX10_underOf_6 ?_
    refine s_icmp_ge (tgt := 113) C dX10_underOf_9 (by decide) (fun q1 => ?_) (fun q1 => ?_)
    · refine s_iload_n C dX10_underOf_113 rfl ?_
      exact s_iret C X dX10_underOf_114 ⟨rfl, trivial⟩
    · refine s_aload_n C dX10_underOf_12 rfl ?_
      refine s_getr (k := 42) (j := 104) C y71 fw_X10_113 rfl dX10_underOf_13 ?_
      refine s_iconst C dX10_underOf_16 (by decide) (fun z2 tz2 => ?_)
      refine s_iload_n C dX10_underOf_17 rfl ?_
      refine s_imulL C tz2 dX10_underOf_18 (by omega) (fun z3 tz3 => ?_)
      refine s_aload_n C dX10_underOf_19 rfl ?_
      refine s_getr (k := 11) (j := 80) C y71 fw_X10_40 rfl dX10_underOf_20 ?_
      refine s_iload_n C dX10_underOf_23 rfl ?_
      refine s_iald (r := (σ.1 80 z.toNatClampNeg)) C y80 (by omega) rfl dX10_underOf_24 ?_
      have b4 := hI.fp z.toNatClampNeg
      refine s_iadd C dX10_underOf_25 (by omega) (fun z5 tz5 => ?_)
      refine s_iald (r := (σ.1 104 z5.toNatClampNeg)) C y104 (by omega) rfl dX10_underOf_26 ?_
      have b6 := hI.cu.2.1 z5.toNatClampNeg
      refine s_aload_n C dX10_underOf_27 rfl ?_
      refine s_getr (k := 12) (j := 81) C y71 fw_X10_43 rfl dX10_underOf_28 ?_
      refine s_iload_n C dX10_underOf_31 rfl ?_
      refine s_iald (r := (σ.1 81 z.toNatClampNeg)) C y81 (by omega) rfl dX10_underOf_32 ?_
      refine s_icmp_lt (tgt := 40) C dX10_underOf_33 (by decide) (fun q7 => ?_) (fun q7 => ?_)
      · refine s_iconst C dX10_underOf_40 (by decide) (fun z8 tz8 => ?_)
        refine s_istore C dX10_underOf_41 (by decide) (Nat.le_of_ble_eq_true rfl) rfl ?_
        show WP E ad 43 [some (.ref (ad 71)), some (.int i), some (.int a), some (.int z), some (.int z8), none] [] σ
        refine s_aload_n C dX10_underOf_43 rfl ?_
        refine s_getr (k := 13) (j := 82) C y71 fw_X10_46 rfl dX10_underOf_44 ?_
        refine s_iload_n C dX10_underOf_47 rfl ?_
        refine s_iald (r := (σ.1 82 z.toNatClampNeg)) C y82 (by omega) rfl dX10_underOf_48 ?_
        have b9 := hI.tk z.toNatClampNeg
        refine s_if_lt (tgt := 84) C dX10_underOf_49 (by decide) (fun q10 => ?_) (fun q10 => ?_)
        · refine s_iconst C dX10_underOf_84 (by decide) (fun z11 tz11 => ?_)
          refine s_istore C dX10_underOf_85 (by decide) (Nat.le_of_ble_eq_true rfl) rfl ?_
          show WP E ad 87 [some (.ref (ad 71)), some (.int i), some (.int a), some (.int z), some (.int z8), some (.int z11)] [] σ
          refine s_iload_n C dX10_underOf_87 rfl ?_
          refine s_iload C dX10_underOf_88 rfl ?_
          refine s_if_eq (tgt := 104) C dX10_underOf_90 (by decide) (fun q12 => ?_) (fun q12 => ?_)
          · refine s_iconst C dX10_underOf_104 (by decide) (fun z13 tz13 => ?_)
            refine s_ior C dX10_underOf_105 (fun z14 tz14 => ?_)
            refine s_istore_n C dX10_underOf_106 (by decide) (Nat.le_of_ble_eq_true rfl) rfl ?_
            show WP E ad 107 [some (.ref (ad 71)), some (.int i), some (.int z14), some (.int z), some (.int z8), some (.int z11)] [] σ
            refine s_iinc C dX10_underOf_107 rfl (by decide) rfl (by decide) (by omega) (fun z15 tz15 => ?_)
            show WP E ad 110 [some (.ref (ad 71)), some (.int i), some (.int z14), some (.int z15), some (.int z8), some (.int z11)] [] σ
            refine s_goto (tgt := 4) C dX10_underOf_110 (by decide) ?_
            refine wp_le (lv' := [some (.ref (ad 71)), some (.int i), some (.int z14), some (.int z15), none, none]) ⟨rfl, ⟨rfl, ⟨rfl, ⟨rfl, trivial⟩⟩⟩⟩ ?_
            exact ih z14 z15 (by omega) (by omega)
          · refine s_iload C dX10_underOf_93 rfl ?_
            refine s_if_ne (tgt := 104) C dX10_underOf_95 (by decide) (fun q16 => ?_) (fun q16 => ?_)
            · refine s_iconst C dX10_underOf_104 (by decide) (fun z17 tz17 => ?_)
              refine s_ior C dX10_underOf_105 (fun z18 tz18 => ?_)
              refine s_istore_n C dX10_underOf_106 (by decide) (Nat.le_of_ble_eq_true rfl) rfl ?_
              show WP E ad 107 [some (.ref (ad 71)), some (.int i), some (.int z18), some (.int z), some (.int z8), some (.int z11)] [] σ
              refine s_iinc C dX10_underOf_107 rfl (by decide) rfl (by decide) (by omega) (fun z19 tz19 => ?_)
              show WP E ad 110 [some (.ref (ad 71)), some (.int i), some (.int z18), some (.int z19), some (.int z8), some (.int z11)] [] σ
              refine s_goto (tgt := 4) C dX10_underOf_110 (by decide) ?_
              refine wp_le (lv' := [some (.ref (ad 71)), some (.int i), some (.int z18), some (.int z19), none, none]) ⟨rfl, ⟨rfl, ⟨rfl, ⟨rfl, trivial⟩⟩⟩⟩ ?_
              exact ih z18 z19 (by omega) (by omega)
            · refine s_iconst C dX10_underOf_98 (by decide) (fun z20 tz20 => ?_)
              refine s_iload_n C dX10_underOf_99 rfl ?_
              refine s_ishl C dX10_underOf_100 (fun z21 tz21 => ?_)
              refine s_goto (tgt := 105) C dX10_underOf_101 (by decide) ?_
              refine s_ior C dX10_underOf_105 (fun z22 tz22 => ?_)
              refine s_istore_n C dX10_underOf_106 (by decide) (Nat.le_of_ble_eq_true rfl) rfl ?_
              show WP E ad 107 [some (.ref (ad 71)), some (.int i), some (.int z22), some (.int z), some (.int z8), some (.int z11)] [] σ
              refine s_iinc C dX10_underOf_107 rfl (by decide) rfl (by decide) (by omega) (fun z23 tz23 => ?_)
              show WP E ad 110 [some (.ref (ad 71)), some (.int i), some (.int z22), some (.int z23), some (.int z8), some (.int z11)] [] σ
              refine s_goto (tgt := 4) C dX10_underOf_110 (by decide) ?_
              refine wp_le (lv' := [some (.ref (ad 71)), some (.int i), some (.int z22), some (.int z23), none, none]) ⟨rfl, ⟨rfl, ⟨rfl, ⟨rfl, trivial⟩⟩⟩⟩ ?_
              exact ih z22 z23 (by omega) (by omega)
        · refine s_aload_n C dX10_underOf_52 rfl ?_
          refine s_getr (k := 42) (j := 104) C y71 fw_X10_113 rfl dX10_underOf_53 ?_
          refine s_iconst C dX10_underOf_56 (by decide) (fun z24 tz24 => ?_)
          refine s_iload_n C dX10_underOf_57 rfl ?_
          refine s_imulL C tz24 dX10_underOf_58 (by omega) (fun z25 tz25 => ?_)
          refine s_iconst C dX10_underOf_59 (by decide) (fun z26 tz26 => ?_)
          refine s_aload_n C dX10_underOf_60 rfl ?_
          refine s_getr (k := 13) (j := 82) C y71 fw_X10_46 rfl dX10_underOf_61 ?_
          refine s_iload_n C dX10_underOf_64 rfl ?_
          refine s_iald (r := (σ.1 82 z.toNatClampNeg)) C y82 (by omega) rfl dX10_underOf_65 ?_
          have b27 := hI.tk z.toNatClampNeg
          refine s_mmax (idx := 193) C (mw 1207 (by decide +kernel) rfl) (mw 1208 (by decide +kernel) rfl) (mw 73 (by decide +kernel) rfl) (mw 1209 (by decide +kernel) rfl) (by decide) (Nat.le_of_ble_eq_true rfl) dX10_underOf_66 (fun z28 tz28 => ?_)
          refine s_iadd C dX10_underOf_69 (by omega) (fun z29 tz29 => ?_)
          refine s_iald (r := (σ.1 104 z29.toNatClampNeg)) C y104 (by omega) rfl dX10_underOf_70 ?_
          have b30 := hI.cu.2.1 z29.toNatClampNeg
          refine s_aload_n C dX10_underOf_71 rfl ?_
          refine s_getr (k := 14) (j := 83) C y71 fw_X10_49 rfl dX10_underOf_72 ?_
          refine s_iload_n C dX10_underOf_75 rfl ?_
          refine s_iald (r := (σ.1 83 z.toNatClampNeg)) C y83 (by omega) rfl dX10_underOf_76 ?_
          refine s_icmp_lt (tgt := 84) C dX10_underOf_77 (by decide) (fun q31 => ?_) (fun q31 => ?_)
          · refine s_iconst C dX10_underOf_84 (by decide) (fun z32 tz32 => ?_)
            refine s_istore C dX10_underOf_85 (by decide) (Nat.le_of_ble_eq_true rfl) rfl ?_
            show WP E ad 87 [some (.ref (ad 71)), some (.int i), some (.int a), some (.int z), some (.int z8), some (.int z32)] [] σ
            refine s_iload_n C dX10_underOf_87 rfl ?_
            refine s_iload C dX10_underOf_88 rfl ?_
            refine s_if_eq (tgt := 104) C dX10_underOf_90 (by decide) (fun q33 => ?_) (fun q33 => ?_)
            · refine s_iconst C dX10_underOf_104 (by decide) (fun z34 tz34 => ?_)
              refine s_ior C dX10_underOf_105 (fun z35 tz35 => ?_)
              refine s_istore_n C dX10_underOf_106 (by decide) (Nat.le_of_ble_eq_true rfl) rfl ?_
              show WP E ad 107 [some (.ref (ad 71)), some (.int i), some (.int z35), some (.int z), some (.int z8), some (.int z32)] [] σ
              refine s_iinc C dX10_underOf_107 rfl (by decide) rfl (by decide) (by omega) (fun z36 tz36 => ?_)
              show WP E ad 110 [some (.ref (ad 71)), some (.int i), some (.int z35), some (.int z36), some (.int z8), some (.int z32)] [] σ
              refine s_goto (tgt := 4) C dX10_underOf_110 (by decide) ?_
              refine wp_le (lv' := [some (.ref (ad 71)), some (.int i), some (.int z35), some (.int z36), none, none]) ⟨rfl, ⟨rfl, ⟨rfl, ⟨rfl, trivial⟩⟩⟩⟩ ?_
              exact ih z35 z36 (by omega) (by omega)
            · refine s_iload C dX10_underOf_93 rfl ?_
              refine s_if_ne (tgt := 104) C dX10_underOf_95 (by decide) (fun q37 => ?_) (fun q37 => ?_)
              · refine s_iconst C dX10_underOf_104 (by decide) (fun z38 tz38 => ?_)
                refine s_ior C dX10_underOf_105 (fun z39 tz39 => ?_)
                refine s_istore_n C dX10_underOf_106 (by decide) (Nat.le_of_ble_eq_true rfl) rfl ?_
                show WP E ad 107 [some (.ref (ad 71)), some (.int i), some (.int z39), some (.int z), some (.int z8), some (.int z32)] [] σ
                refine s_iinc C dX10_underOf_107 rfl (by decide) rfl (by decide) (by omega) (fun z40 tz40 => ?_)
                show WP E ad 110 [some (.ref (ad 71)), some (.int i), some (.int z39), some (.int z40), some (.int z8), some (.int z32)] [] σ
                refine s_goto (tgt := 4) C dX10_underOf_110 (by decide) ?_
                refine wp_le (lv' := [some (.ref (ad 71)), some (.int i), some (.int z39), some (.int z40), none, none]) ⟨rfl, ⟨rfl, ⟨rfl, ⟨rfl, trivial⟩⟩⟩⟩ ?_
                exact ih z39 z40 (by omega) (by omega)
              · refine s_iconst C dX10_underOf_98 (by decide) (fun z41 tz41 => ?_)
                refine s_iload_n C dX10_underOf_99 rfl ?_
                refine s_ishl C dX10_underOf_100 (fun z42 tz42 => ?_)
                refine s_goto (tgt := 105) C dX10_underOf_101 (by decide) ?_
                refine s_ior C dX10_underOf_105 (fun z43 tz43 => ?_)
                refine s_istore_n C dX10_underOf_106 (by decide) (Nat.le_of_ble_eq_true rfl) rfl ?_
                show WP E ad 107 [some (.ref (ad 71)), some (.int i), some (.int z43), some (.int z), some (.int z8), some (.int z32)] [] σ
                refine s_iinc C dX10_underOf_107 rfl (by decide) rfl (by decide) (by omega) (fun z44 tz44 => ?_)
                show WP E ad 110 [some (.ref (ad 71)), some (.int i), some (.int z43), some (.int z44), some (.int z8), some (.int z32)] [] σ
                refine s_goto (tgt := 4) C dX10_underOf_110 (by decide) ?_
                refine wp_le (lv' := [some (.ref (ad 71)), some (.int i), some (.int z43), some (.int z44), none, none]) ⟨rfl, ⟨rfl, ⟨rfl, ⟨rfl, trivial⟩⟩⟩⟩ ?_
                exact ih z43 z44 (by omega) (by omega)
          · refine s_iconst C dX10_underOf_80 (by decide) (fun z45 tz45 => ?_)
            refine s_goto (tgt := 85) C dX10_underOf_81 (by decide) ?_
            refine s_istore C dX10_underOf_85 (by decide) (Nat.le_of_ble_eq_true rfl) rfl ?_
            show WP E ad 87 [some (.ref (ad 71)), some (.int i), some (.int a), some (.int z), some (.int z8), some (.int z45)] [] σ
            refine s_iload_n C dX10_underOf_87 rfl ?_
            refine s_iload C dX10_underOf_88 rfl ?_
            refine s_if_eq (tgt := 104) C dX10_underOf_90 (by decide) (fun q46 => ?_) (fun q46 => ?_)
            · refine s_iconst C dX10_underOf_104 (by decide) (fun z47 tz47 => ?_)
              refine s_ior C dX10_underOf_105 (fun z48 tz48 => ?_)
              refine s_istore_n C dX10_underOf_106 (by decide) (Nat.le_of_ble_eq_true rfl) rfl ?_
              show WP E ad 107 [some (.ref (ad 71)), some (.int i), some (.int z48), some (.int z), some (.int z8), some (.int z45)] [] σ
              refine s_iinc C dX10_underOf_107 rfl (by decide) rfl (by decide) (by omega) (fun z49 tz49 => ?_)
              show WP E ad 110 [some (.ref (ad 71)), some (.int i), some (.int z48), some (.int z49), some (.int z8), some (.int z45)] [] σ
              refine s_goto (tgt := 4) C dX10_underOf_110 (by decide) ?_
              refine wp_le (lv' := [some (.ref (ad 71)), some (.int i), some (.int z48), some (.int z49), none, none]) ⟨rfl, ⟨rfl, ⟨rfl, ⟨rfl, trivial⟩⟩⟩⟩ ?_
              exact ih z48 z49 (by omega) (by omega)
            · refine s_iload C dX10_underOf_93 rfl ?_
              refine s_if_ne (tgt := 104) C dX10_underOf_95 (by decide) (fun q50 => ?_) (fun q50 => ?_)
              · refine s_iconst C dX10_underOf_104 (by decide) (fun z51 tz51 => ?_)
                refine s_ior C dX10_underOf_105 (fun z52 tz52 => ?_)
                refine s_istore_n C dX10_underOf_106 (by decide) (Nat.le_of_ble_eq_true rfl) rfl ?_
                show WP E ad 107 [some (.ref (ad 71)), some (.int i), some (.int z52), some (.int z), some (.int z8), some (.int z45)] [] σ
                refine s_iinc C dX10_underOf_107 rfl (by decide) rfl (by decide) (by omega) (fun z53 tz53 => ?_)
                show WP E ad 110 [some (.ref (ad 71)), some (.int i), some (.int z52), some (.int z53), some (.int z8), some (.int z45)] [] σ
                refine s_goto (tgt := 4) C dX10_underOf_110 (by decide) ?_
                refine wp_le (lv' := [some (.ref (ad 71)), some (.int i), some (.int z52), some (.int z53), none, none]) ⟨rfl, ⟨rfl, ⟨rfl, ⟨rfl, trivial⟩⟩⟩⟩ ?_
                exact ih z52 z53 (by omega) (by omega)
              · refine s_iconst C dX10_underOf_98 (by decide) (fun z54 tz54 => ?_)
                refine s_iload_n C dX10_underOf_99 rfl ?_
                refine s_ishl C dX10_underOf_100 (fun z55 tz55 => ?_)
                refine s_goto (tgt := 105) C dX10_underOf_101 (by decide) ?_
                refine s_ior C dX10_underOf_105 (fun z56 tz56 => ?_)
                refine s_istore_n C dX10_underOf_106 (by decide) (Nat.le_of_ble_eq_true rfl) rfl ?_
                show WP E ad 107 [some (.ref (ad 71)), some (.int i), some (.int z56), some (.int z), some (.int z8), some (.int z45)] [] σ
                refine s_iinc C dX10_underOf_107 rfl (by decide) rfl (by decide) (by omega) (fun z57 tz57 => ?_)
                show WP E ad 110 [some (.ref (ad 71)), some (.int i), some (.int z56), some (.int z57), some (.int z8), some (.int z45)] [] σ
                refine s_goto (tgt := 4) C dX10_underOf_110 (by decide) ?_
                refine wp_le (lv' := [some (.ref (ad 71)), some (.int i), some (.int z56), some (.int z57), none, none]) ⟨rfl, ⟨rfl, ⟨rfl, ⟨rfl, trivial⟩⟩⟩⟩ ?_
                exact ih z56 z57 (by omega) (by omega)
      · refine s_iconst C dX10_underOf_36 (by decide) (fun z58 tz58 => ?_)
        refine s_goto (tgt := 41) C dX10_underOf_37 (by decide) ?_
        refine s_istore C dX10_underOf_41 (by decide) (Nat.le_of_ble_eq_true rfl) rfl ?_
        show WP E ad 43 [some (.ref (ad 71)), some (.int i), some (.int a), some (.int z), some (.int z58), none] [] σ
        refine s_aload_n C dX10_underOf_43 rfl ?_
        refine s_getr (k := 13) (j := 82) C y71 fw_X10_46 rfl dX10_underOf_44 ?_
        refine s_iload_n C dX10_underOf_47 rfl ?_
        refine s_iald (r := (σ.1 82 z.toNatClampNeg)) C y82 (by omega) rfl dX10_underOf_48 ?_
        have b59 := hI.tk z.toNatClampNeg
        refine s_if_lt (tgt := 84) C dX10_underOf_49 (by decide) (fun q60 => ?_) (fun q60 => ?_)
        · refine s_iconst C dX10_underOf_84 (by decide) (fun z61 tz61 => ?_)
          refine s_istore C dX10_underOf_85 (by decide) (Nat.le_of_ble_eq_true rfl) rfl ?_
          show WP E ad 87 [some (.ref (ad 71)), some (.int i), some (.int a), some (.int z), some (.int z58), some (.int z61)] [] σ
          refine s_iload_n C dX10_underOf_87 rfl ?_
          refine s_iload C dX10_underOf_88 rfl ?_
          refine s_if_eq (tgt := 104) C dX10_underOf_90 (by decide) (fun q62 => ?_) (fun q62 => ?_)
          · refine s_iconst C dX10_underOf_104 (by decide) (fun z63 tz63 => ?_)
            refine s_ior C dX10_underOf_105 (fun z64 tz64 => ?_)
            refine s_istore_n C dX10_underOf_106 (by decide) (Nat.le_of_ble_eq_true rfl) rfl ?_
            show WP E ad 107 [some (.ref (ad 71)), some (.int i), some (.int z64), some (.int z), some (.int z58), some (.int z61)] [] σ
            refine s_iinc C dX10_underOf_107 rfl (by decide) rfl (by decide) (by omega) (fun z65 tz65 => ?_)
            show WP E ad 110 [some (.ref (ad 71)), some (.int i), some (.int z64), some (.int z65), some (.int z58), some (.int z61)] [] σ
            refine s_goto (tgt := 4) C dX10_underOf_110 (by decide) ?_
            refine wp_le (lv' := [some (.ref (ad 71)), some (.int i), some (.int z64), some (.int z65), none, none]) ⟨rfl, ⟨rfl, ⟨rfl, ⟨rfl, trivial⟩⟩⟩⟩ ?_
            exact ih z64 z65 (by omega) (by omega)
          · refine s_iload C dX10_underOf_93 rfl ?_
            refine s_if_ne (tgt := 104) C dX10_underOf_95 (by decide) (fun q66 => ?_) (fun q66 => ?_)
            · refine s_iconst C dX10_underOf_104 (by decide) (fun z67 tz67 => ?_)
              refine s_ior C dX10_underOf_105 (fun z68 tz68 => ?_)
              refine s_istore_n C dX10_underOf_106 (by decide) (Nat.le_of_ble_eq_true rfl) rfl ?_
              show WP E ad 107 [some (.ref (ad 71)), some (.int i), some (.int z68), some (.int z), some (.int z58), some (.int z61)] [] σ
              refine s_iinc C dX10_underOf_107 rfl (by decide) rfl (by decide) (by omega) (fun z69 tz69 => ?_)
              show WP E ad 110 [some (.ref (ad 71)), some (.int i), some (.int z68), some (.int z69), some (.int z58), some (.int z61)] [] σ
              refine s_goto (tgt := 4) C dX10_underOf_110 (by decide) ?_
              refine wp_le (lv' := [some (.ref (ad 71)), some (.int i), some (.int z68), some (.int z69), none, none]) ⟨rfl, ⟨rfl, ⟨rfl, ⟨rfl, trivial⟩⟩⟩⟩ ?_
              exact ih z68 z69 (by omega) (by omega)
            · refine s_iconst C dX10_underOf_98 (by decide) (fun z70 tz70 => ?_)
              refine s_iload_n C dX10_underOf_99 rfl ?_
              refine s_ishl C dX10_underOf_100 (fun z71 tz71 => ?_)
              refine s_goto (tgt := 105) C dX10_underOf_101 (by decide) ?_
              refine s_ior C dX10_underOf_105 (fun z72 tz72 => ?_)
              refine s_istore_n C dX10_underOf_106 (by decide) (Nat.le_of_ble_eq_true rfl) rfl ?_
              show WP E ad 107 [some (.ref (ad 71)), some (.int i), some (.int z72), some (.int z), some (.int z58), some (.int z61)] [] σ
              refine s_iinc C dX10_underOf_107 rfl (by decide) rfl (by decide) (by omega) (fun z73 tz73 => ?_)
              show WP E ad 110 [some (.ref (ad 71)), some (.int i), some (.int z72), some (.int z73), some (.int z58), some (.int z61)] [] σ
              refine s_goto (tgt := 4) C dX10_underOf_110 (by decide) ?_
              refine wp_le (lv' := [some (.ref (ad 71)), some (.int i), some (.int z72), some (.int z73), none, none]) ⟨rfl, ⟨rfl, ⟨rfl, ⟨rfl, trivial⟩⟩⟩⟩ ?_
              exact ih z72 z73 (by omega) (by omega)
        · refine s_aload_n C dX10_underOf_52 rfl ?_
          refine s_getr (k := 42) (j := 104) C y71 fw_X10_113 rfl dX10_underOf_53 ?_
          refine s_iconst C dX10_underOf_56 (by decide) (fun z74 tz74 => ?_)
          refine s_iload_n C dX10_underOf_57 rfl ?_
          refine s_imulL C tz74 dX10_underOf_58 (by omega) (fun z75 tz75 => ?_)
          refine s_iconst C dX10_underOf_59 (by decide) (fun z76 tz76 => ?_)
          refine s_aload_n C dX10_underOf_60 rfl ?_
          refine s_getr (k := 13) (j := 82) C y71 fw_X10_46 rfl dX10_underOf_61 ?_
          refine s_iload_n C dX10_underOf_64 rfl ?_
          refine s_iald (r := (σ.1 82 z.toNatClampNeg)) C y82 (by omega) rfl dX10_underOf_65 ?_
          have b77 := hI.tk z.toNatClampNeg
          refine s_mmax (idx := 193) C (mw 1207 (by decide +kernel) rfl) (mw 1208 (by decide +kernel) rfl) (mw 73 (by decide +kernel) rfl) (mw 1209 (by decide +kernel) rfl) (by decide) (Nat.le_of_ble_eq_true rfl) dX10_underOf_66 (fun z78 tz78 => ?_)
          refine s_iadd C dX10_underOf_69 (by omega) (fun z79 tz79 => ?_)
          refine s_iald (r := (σ.1 104 z79.toNatClampNeg)) C y104 (by omega) rfl dX10_underOf_70 ?_
          have b80 := hI.cu.2.1 z79.toNatClampNeg
          refine s_aload_n C dX10_underOf_71 rfl ?_
          refine s_getr (k := 14) (j := 83) C y71 fw_X10_49 rfl dX10_underOf_72 ?_
          refine s_iload_n C dX10_underOf_75 rfl ?_
          refine s_iald (r := (σ.1 83 z.toNatClampNeg)) C y83 (by omega) rfl dX10_underOf_76 ?_
          refine s_icmp_lt (tgt := 84) C dX10_underOf_77 (by decide) (fun q81 => ?_) (fun q81 => ?_)
          · refine s_iconst C dX10_underOf_84 (by decide) (fun z82 tz82 => ?_)
            refine s_istore C dX10_underOf_85 (by decide) (Nat.le_of_ble_eq_true rfl) rfl ?_
            show WP E ad 87 [some (.ref (ad 71)), some (.int i), some (.int a), some (.int z), some (.int z58), some (.int z82)] [] σ
            refine s_iload_n C dX10_underOf_87 rfl ?_
            refine s_iload C dX10_underOf_88 rfl ?_
            refine s_if_eq (tgt := 104) C dX10_underOf_90 (by decide) (fun q83 => ?_) (fun q83 => ?_)
            · refine s_iconst C dX10_underOf_104 (by decide) (fun z84 tz84 => ?_)
              refine s_ior C dX10_underOf_105 (fun z85 tz85 => ?_)
              refine s_istore_n C dX10_underOf_106 (by decide) (Nat.le_of_ble_eq_true rfl) rfl ?_
              show WP E ad 107 [some (.ref (ad 71)), some (.int i), some (.int z85), some (.int z), some (.int z58), some (.int z82)] [] σ
              refine s_iinc C dX10_underOf_107 rfl (by decide) rfl (by decide) (by omega) (fun z86 tz86 => ?_)
              show WP E ad 110 [some (.ref (ad 71)), some (.int i), some (.int z85), some (.int z86), some (.int z58), some (.int z82)] [] σ
              refine s_goto (tgt := 4) C dX10_underOf_110 (by decide) ?_
              refine wp_le (lv' := [some (.ref (ad 71)), some (.int i), some (.int z85), some (.int z86), none, none]) ⟨rfl, ⟨rfl, ⟨rfl, ⟨rfl, trivial⟩⟩⟩⟩ ?_
              exact ih z85 z86 (by omega) (by omega)
            · refine s_iload C dX10_underOf_93 rfl ?_
              refine s_if_ne (tgt := 104) C dX10_underOf_95 (by decide) (fun q87 => ?_) (fun q87 => ?_)
              · refine s_iconst C dX10_underOf_104 (by decide) (fun z88 tz88 => ?_)
                refine s_ior C dX10_underOf_105 (fun z89 tz89 => ?_)
                refine s_istore_n C dX10_underOf_106 (by decide) (Nat.le_of_ble_eq_true rfl) rfl ?_
                show WP E ad 107 [some (.ref (ad 71)), some (.int i), some (.int z89), some (.int z), some (.int z58), some (.int z82)] [] σ
                refine s_iinc C dX10_underOf_107 rfl (by decide) rfl (by decide) (by omega) (fun z90 tz90 => ?_)
                show WP E ad 110 [some (.ref (ad 71)), some (.int i), some (.int z89), some (.int z90), some (.int z58), some (.int z82)] [] σ
                refine s_goto (tgt := 4) C dX10_underOf_110 (by decide) ?_
                refine wp_le (lv' := [some (.ref (ad 71)), some (.int i), some (.int z89), some (.int z90), none, none]) ⟨rfl, ⟨rfl, ⟨rfl, ⟨rfl, trivial⟩⟩⟩⟩ ?_
                exact ih z89 z90 (by omega) (by omega)
              · refine s_iconst C dX10_underOf_98 (by decide) (fun z91 tz91 => ?_)
                refine s_iload_n C dX10_underOf_99 rfl ?_
                refine s_ishl C dX10_underOf_100 (fun z92 tz92 => ?_)
                refine s_goto (tgt := 105) C dX10_underOf_101 (by decide) ?_
                refine s_ior C dX10_underOf_105 (fun z93 tz93 => ?_)
                refine s_istore_n C dX10_underOf_106 (by decide) (Nat.le_of_ble_eq_true rfl) rfl ?_
                show WP E ad 107 [some (.ref (ad 71)), some (.int i), some (.int z93), some (.int z), some (.int z58), some (.int z82)] [] σ
                refine s_iinc C dX10_underOf_107 rfl (by decide) rfl (by decide) (by omega) (fun z94 tz94 => ?_)
                show WP E ad 110 [some (.ref (ad 71)), some (.int i), some (.int z93), some (.int z94), some (.int z58), some (.int z82)] [] σ
                refine s_goto (tgt := 4) C dX10_underOf_110 (by decide) ?_
                refine wp_le (lv' := [some (.ref (ad 71)), some (.int i), some (.int z93), some (.int z94), none, none]) ⟨rfl, ⟨rfl, ⟨rfl, ⟨rfl, trivial⟩⟩⟩⟩ ?_
                exact ih z93 z94 (by omega) (by omega)
          · refine s_iconst C dX10_underOf_80 (by decide) (fun z95 tz95 => ?_)
            refine s_goto (tgt := 85) C dX10_underOf_81 (by decide) ?_
            refine s_istore C dX10_underOf_85 (by decide) (Nat.le_of_ble_eq_true rfl) rfl ?_
            show WP E ad 87 [some (.ref (ad 71)), some (.int i), some (.int a), some (.int z), some (.int z58), some (.int z95)] [] σ
            refine s_iload_n C dX10_underOf_87 rfl ?_
            refine s_iload C dX10_underOf_88 rfl ?_
            refine s_if_eq (tgt := 104) C dX10_underOf_90 (by decide) (fun q96 => ?_) (fun q96 => ?_)
            · refine s_iconst C dX10_underOf_104 (by decide) (fun z97 tz97 => ?_)
              refine s_ior C dX10_underOf_105 (fun z98 tz98 => ?_)
              refine s_istore_n C dX10_underOf_106 (by decide) (Nat.le_of_ble_eq_true rfl) rfl ?_
              show WP E ad 107 [some (.ref (ad 71)), some (.int i), some (.int z98), some (.int z), some (.int z58), some (.int z95)] [] σ
              refine s_iinc C dX10_underOf_107 rfl (by decide) rfl (by decide) (by omega) (fun z99 tz99 => ?_)
              show WP E ad 110 [some (.ref (ad 71)), some (.int i), some (.int z98), some (.int z99), some (.int z58), some (.int z95)] [] σ
              refine s_goto (tgt := 4) C dX10_underOf_110 (by decide) ?_
              refine wp_le (lv' := [some (.ref (ad 71)), some (.int i), some (.int z98), some (.int z99), none, none]) ⟨rfl, ⟨rfl, ⟨rfl, ⟨rfl, trivial⟩⟩⟩⟩ ?_
              exact ih z98 z99 (by omega) (by omega)
            · refine s_iload C dX10_underOf_93 rfl ?_
              refine s_if_ne (tgt := 104) C dX10_underOf_95 (by decide) (fun q100 => ?_) (fun q100 => ?_)
              · refine s_iconst C dX10_underOf_104 (by decide) (fun z101 tz101 => ?_)
                refine s_ior C dX10_underOf_105 (fun z102 tz102 => ?_)
                refine s_istore_n C dX10_underOf_106 (by decide) (Nat.le_of_ble_eq_true rfl) rfl ?_
                show WP E ad 107 [some (.ref (ad 71)), some (.int i), some (.int z102), some (.int z), some (.int z58), some (.int z95)] [] σ
                refine s_iinc C dX10_underOf_107 rfl (by decide) rfl (by decide) (by omega) (fun z103 tz103 => ?_)
                show WP E ad 110 [some (.ref (ad 71)), some (.int i), some (.int z102), some (.int z103), some (.int z58), some (.int z95)] [] σ
                refine s_goto (tgt := 4) C dX10_underOf_110 (by decide) ?_
                refine wp_le (lv' := [some (.ref (ad 71)), some (.int i), some (.int z102), some (.int z103), none, none]) ⟨rfl, ⟨rfl, ⟨rfl, ⟨rfl, trivial⟩⟩⟩⟩ ?_
                exact ih z102 z103 (by omega) (by omega)
              · refine s_iconst C dX10_underOf_98 (by decide) (fun z104 tz104 => ?_)
                refine s_iload_n C dX10_underOf_99 rfl ?_
                refine s_ishl C dX10_underOf_100 (fun z105 tz105 => ?_)
                refine s_goto (tgt := 105) C dX10_underOf_101 (by decide) ?_
                refine s_ior C dX10_underOf_105 (fun z106 tz106 => ?_)
                refine s_istore_n C dX10_underOf_106 (by decide) (Nat.le_of_ble_eq_true rfl) rfl ?_
                show WP E ad 107 [some (.ref (ad 71)), some (.int i), some (.int z106), some (.int z), some (.int z58), some (.int z95)] [] σ
                refine s_iinc C dX10_underOf_107 rfl (by decide) rfl (by decide) (by omega) (fun z107 tz107 => ?_)
                show WP E ad 110 [some (.ref (ad 71)), some (.int i), some (.int z106), some (.int z107), some (.int z58), some (.int z95)] [] σ
                refine s_goto (tgt := 4) C dX10_underOf_110 (by decide) ?_
                refine wp_le (lv' := [some (.ref (ad 71)), some (.int i), some (.int z106), some (.int z107), none, none]) ⟨rfl, ⟨rfl, ⟨rfl, ⟨rfl, trivial⟩⟩⟩⟩ ?_
                exact ih z106 z107 (by omega) (by omega)
set_option maxRecDepth 100000 in
theorem c_X10_underOf (l : Launch) (ad : Nat → Nat) (σ : Sg) (i : Int32) (hI : IM σ.1) (hi : 0 ≤ i.toInt ∧ i.toInt ≤ 1295) : Mt l yX10_underOf cX10_underOf 6 (some .int) 1 ad σ [.ref (ad 71), .int i] (oI (fun r τ => τ = σ ∧ True)) := by
  refine Mt_intro (by decide +kernel) (by simp [lg_sl, Value.category]) (fun E C X => ?_)
  show WP E ad 0 [some (.ref (ad 71)), some (.int i), none, none, none, none] [] σ
  refine s_iconst C dX10_underOf_0 (by decide) (fun z1 tz1 => ?_)
  refine s_istore_n C dX10_underOf_1 (by decide) (Nat.le_of_ble_eq_true rfl) rfl ?_
  show WP E ad 2 [some (.ref (ad 71)), some (.int i), some (.int z1), none, none, none] [] σ
  refine s_iconst C dX10_underOf_2 (by decide) (fun z2 tz2 => ?_)
  refine s_istore_n C dX10_underOf_3 (by decide) (Nat.le_of_ble_eq_true rfl) rfl ?_
  show WP E ad 4 [some (.ref (ad 71)), some (.int i), some (.int z1), some (.int z2), none, none] [] σ
  exact L_underOf l ad E σ hI i hi C X 100 z1 z2 (by omega) (by omega)
set_option maxRecDepth 100000 in
theorem c_X10_under (l : Launch) (ad : Nat → Nat) (σ : Sg) (i : Int32) (hI : IM σ.1) : Mt l yX10_under cX10_under 2 (some .int) 4 ad σ [.ref (ad 71), .int i] (oI (fun r τ => IM τ.1 ∧ Fr [103, 104, 105, 106] [(71, 39), (71, 40)] σ τ ∧ True)) := by
  have hpr := hI.pr
  refine Mt_intro (by decide +kernel) (by simp [lg_sl, Value.category]) (fun E C X => ?_)
  show WP E ad 0 [some (.ref (ad 71)), some (.int i)] [] σ
  refine s_aload_n C dX10_under_0 rfl ?_
  refine s_iload_n C dX10_under_1 rfl ?_
  refine s_callVI (st := []) C (c_X10_isCut l ad σ i hI) cv_X10_222 y71 rfl rfl rfl ⟨by decide, by decide⟩ (Nat.le_of_ble_eq_true rfl) dX10_under_2 ?_
  intro r1 τ2 h3
  have hIτ2 := h3.1
  have hRτ2 := h3.2.2
  have hLτ2 := h3.2.2.2.1
  have hBτ2 := hIτ2.cu.1
  refine s_if_eq (tgt := 16) C dX10_under_5 (by decide) (fun q4 => ?_) (fun q4 => ?_)
  · refine s_iconst C dX10_under_16 (by decide) (fun z5 tz5 => ?_)
    exact s_iret C X dX10_under_17 ⟨hIτ2, (Fr.tr Fr.rf (Fr.mo h3.2.1 (by decide) (by decide))), trivial⟩
  · refine s_aload_n C dX10_under_8 rfl ?_
    refine s_iload_n C dX10_under_9 rfl ?_
    refine s_callVI (st := []) C (c_X10_underOf l ad τ2 i hIτ2 (by omega)) cv_X10_239 y71 rfl rfl rfl ⟨by decide, by decide⟩ (Nat.le_of_ble_eq_true rfl) dX10_under_10 ?_
    intro r6 τ7 h8
    obtain ⟨eh8, h8⟩ := h8; replace eh8 := eh8.symm; subst eh8
    refine s_goto (tgt := 17) C dX10_under_13 (by decide) ?_
    exact s_iret C X dX10_under_17 ⟨hIτ2, (Fr.tr Fr.rf (Fr.mo h3.2.1 (by decide) (by decide))), trivial⟩
