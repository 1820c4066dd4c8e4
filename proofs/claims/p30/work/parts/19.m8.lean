set_option maxRecDepth 100000 in
theorem L_digitsNow (l : Launch) (ad : Nat → Nat) (E : Ev) (σ : Sg) (hpr : 1 ≤ (σ.1 71 0).toInt ∧ (σ.1 71 0).toInt ≤ 4) (hnow : ∀ j, 0 ≤ (σ.1 106 j).toInt ∧ (σ.1 106 j).toInt ≤ 5) (C : Cx E l (rmk 0) 3 cX10_digitsNow RX10) (X : Rx E ad (some .int) (oI (fun r τ => τ = σ ∧ r.toInt = dg (fun j => (σ.1 106 j).toInt) (σ.1 71 0).toInt.toNat ∧ 0 ≤ r.toInt ∧ r.toInt ≤ 5555)))  : ∀ (n : Nat) (d : Int32) (z : Int32), (d.toInt = dg (fun j => (σ.1 106 j).toInt) z.toInt.toNat) → (0 ≤ z.toInt ∧ z.toInt ≤ (σ.1 71 0).toInt) → (4 - z.toInt).toNat < n → WP E ad 4 [some (.ref (ad 71)), some (.int d), some (.int z)] [] σ := by
  intro n
  induction n with
  | zero => intro d z hd h0 hm9; exact absurd hm9 (Nat.not_lt_zero _)
  | succ n ih =>
    intro d z hd h0 hm9
    have hdb := dg_b (m := (fun j => (σ.1 106 j).toInt)) hnow (k := z.toInt.toNat) (by omega)
    refine s_iload_n C dX10_digitsNow_4 rfl ?_
    refine s_aload_n C dX10_digitsNow_5 rfl ?_
    refine s_get (k := 0) (x := (σ.1 71 0)) C y71 fw_X10_9 rfl rfl dX10_digitsNow_6 ?_
    refine s_icmp_ge (tgt := 30) C dX10_digitsNow_9 (by decide) (fun q1 => ?_) (fun q1 => ?_)
    · refine s_iload_n C dX10_digitsNow_30 rfl ?_
      exact s_iret C X dX10_digitsNow_31 ⟨rfl, by rw [hd, show z.toInt.toNat = (σ.1 71 0).toInt.toNat by omega], by omega, by omega⟩
    · refine s_bipush C dX10_digitsNow_12 (by decide) (fun z2 tz2 => ?_)
      refine s_iload_n C dX10_digitsNow_14 rfl ?_
      refine s_imulL C tz2 dX10_digitsNow_15 (by omega) (fun z3 tz3 => ?_)
      refine s_aload_n C dX10_digitsNow_16 rfl ?_
      refine s_getr (k := 44) (j := 106) C y71 fw_X10_119 rfl dX10_digitsNow_17 ?_
      refine s_iload_n C dX10_digitsNow_20 rfl ?_
      refine s_iald (r := (σ.1 106 z.toNatClampNeg)) C y106 (by omega) rfl dX10_digitsNow_21 ?_
      have b4 := hnow z.toNatClampNeg
      refine s_iadd C dX10_digitsNow_22 (by omega) (fun z5 tz5 => ?_)
      refine s_istore_n C dX10_digitsNow_23 (by decide) (Nat.le_of_ble_eq_true rfl) rfl ?_
      show WP E ad 24 [some (.ref (ad 71)), some (.int z5), some (.int z)] [] σ
      refine s_iinc C dX10_digitsNow_24 rfl (by decide) rfl (by decide) (by omega) (fun z6 tz6 => ?_)
      show WP E ad 27 [some (.ref (ad 71)), some (.int z5), some (.int z6)] [] σ
      refine s_goto (tgt := 4) C dX10_digitsNow_27 (by decide) ?_
      exact ih z5 z6 (by rw [show z6.toInt.toNat = z.toInt.toNat + 1 by omega]; show z5.toInt = 10 * dg (fun j => (σ.1 106 j).toInt) z.toInt.toNat + (σ.1 106 z.toInt.toNat).toInt; rw [← hd]; have e : (σ.1 106 z.toNatClampNeg).toInt = (σ.1 106 z.toInt.toNat).toInt := rfl; omega) (by omega) (by omega)
set_option maxRecDepth 100000 in
theorem c_X10_digitsNow (l : Launch) (ad : Nat → Nat) (σ : Sg) (hpr : 1 ≤ (σ.1 71 0).toInt ∧ (σ.1 71 0).toInt ≤ 4) (hnow : ∀ j, 0 ≤ (σ.1 106 j).toInt ∧ (σ.1 106 j).toInt ≤ 5) : Mt l yX10_digitsNow cX10_digitsNow 3 (some .int) 0 ad σ [.ref (ad 71)] (oI (fun r τ => τ = σ ∧ r.toInt = dg (fun j => (σ.1 106 j).toInt) (σ.1 71 0).toInt.toNat ∧ 0 ≤ r.toInt ∧ r.toInt ≤ 5555)) := by
  refine Mt_intro (by decide +kernel) (by simp [lg_sl, Value.category]) (fun E C X => ?_)
  show WP E ad 0 [some (.ref (ad 71)), none, none] [] σ
  refine s_iconst C dX10_digitsNow_0 (by decide) (fun z1 tz1 => ?_)
  refine s_istore_n C dX10_digitsNow_1 (by decide) (Nat.le_of_ble_eq_true rfl) rfl ?_
  show WP E ad 2 [some (.ref (ad 71)), some (.int z1), none] [] σ
  refine s_iconst C dX10_digitsNow_2 (by decide) (fun z2 tz2 => ?_)
  refine s_istore_n C dX10_digitsNow_3 (by decide) (Nat.le_of_ble_eq_true rfl) rfl ?_
  show WP E ad 4 [some (.ref (ad 71)), some (.int z1), some (.int z2)] [] σ
  exact L_digitsNow l ad E σ hpr hnow C X 100 z1 z2 (by rw [show z2.toInt.toNat = 0 by omega]; show z1.toInt = 0; omega) (by omega) (by omega)
set_option maxRecDepth 100000 in
theorem L_holdsNow2 (l : Launch) (ad : Nat → Nat) (E : Ev) (σ : Sg) (hpr : 1 ≤ (σ.1 71 0).toInt ∧ (σ.1 71 0).toInt ≤ 4) (hnow : ∀ j, 0 ≤ (σ.1 106 j).toInt ∧ (σ.1 106 j).toInt ≤ 5) (p : Int32) (hp : 0 ≤ p.toInt ∧ p.toInt < (σ.1 71 0).toInt) (C : Cx E l (rmk 1) 3 cX10_holdsNow RX10) (X : Rx E ad (some .boolean) (oI (fun r τ => τ = σ ∧ (r.toInt = 0 ∨ r.toInt = 1) ∧ ((∀ p q : Nat, (p : Int) < (σ.1 71 0).toInt → (q : Int) < (σ.1 71 0).toInt → 0 < (σ.1 106 p).toInt → (σ.1 78 (4 * (5 * p + (σ.1 106 p).toInt.toNat - 1) + q)).toInt ≤ (σ.1 106 q).toInt) → r.toInt = 1)))) (K : ∀ q : Int32, q.toInt = p.toInt + 1 → WP E ad 2 [some (.ref (ad 71)), some (.int q), none] [] σ) : ∀ (n : Nat) (z : Int32), (0 ≤ z.toInt) → (4 - z.toInt).toNat < n → WP E ad 12 [some (.ref (ad 71)), some (.int p), some (.int z)] [] σ := by
  intro n
  induction n with
  | zero => intro z h0 hm9; exact absurd hm9 (Nat.not_lt_zero _)
  | succ n ih =>
    intro z h0 hm9
    refine s_iload_n C dX10_holdsNow_12 rfl ?_
    refine s_aload_n C dX10_holdsNow_13 rfl ?_
    refine s_get (k := 0) (x := (σ.1 71 0)) C y71 fw_X10_9 rfl rfl dX10_holdsNow_14 ?_
    refine s_icmp_ge (tgt := 65) C dX10_holdsNow_17 (by decide) (fun q1 => ?_) (fun q1 => ?_)
    · refine s_iinc C dX10_holdsNow_65 rfl (by decide) rfl (by decide) (by omega) (fun z2 tz2 => ?_)
      show WP E ad 68 [some (.ref (ad 71)), some (.int z2), some (.int z)] [] σ
      refine s_goto (tgt := 2) C dX10_holdsNow_68 (by decide) ?_
      refine wp_le (lv' := [some (.ref (ad 71)), some (.int z2), none]) ⟨rfl, ⟨rfl, trivial⟩⟩ ?_
      exact K z2 (by omega)
    · refine s_aload_n C dX10_holdsNow_20 rfl ?_
      refine s_getr (k := 44) (j := 106) C y71 fw_X10_119 rfl dX10_holdsNow_21 ?_
      refine s_iload_n C dX10_holdsNow_24 rfl ?_
      refine s_iald (r := (σ.1 106 p.toNatClampNeg)) C y106 (by omega) rfl dX10_holdsNow_25 ?_
      have b3 := hnow p.toNatClampNeg
      refine s_if_le (tgt := 65) C dX10_holdsNow_26 (by decide) (fun q4 => ?_) (fun q4 => ?_)
      · refine s_iinc C dX10_holdsNow_65 rfl (by decide) rfl (by decide) (by omega) (fun z5 tz5 => ?_)
        show WP E ad 68 [some (.ref (ad 71)), some (.int z5), some (.int z)] [] σ
        refine s_goto (tgt := 2) C dX10_holdsNow_68 (by decide) ?_
        refine wp_le (lv' := [some (.ref (ad 71)), some (.int z5), none]) ⟨rfl, ⟨rfl, trivial⟩⟩ ?_
        exact K z5 (by omega)
      · refine s_aload_n C dX10_holdsNow_29 rfl ?_
        refine s_getr (k := 7) (j := 78) C y71 fw_X10_34 rfl dX10_holdsNow_30 ?_
        refine s_iconst C dX10_holdsNow_33 (by decide) (fun z6 tz6 => ?_)
        refine s_iload_n C dX10_holdsNow_34 rfl ?_
        refine s_aload_n C dX10_holdsNow_35 rfl ?_
        refine s_getr (k := 44) (j := 106) C y71 fw_X10_119 rfl dX10_holdsNow_36 ?_
        refine s_iload_n C dX10_holdsNow_39 rfl ?_
        refine s_iald (r := (σ.1 106 p.toNatClampNeg)) C y106 (by omega) rfl dX10_holdsNow_40 ?_
        have b7 := hnow p.toNatClampNeg
        refine s_callSI (st := [.int z6, .ref (ad 78)]) C (c_X10_at l ad σ p ((σ.1 106 p.toNatClampNeg)) (by omega) (by omega)) cv_X10_189 rfl rfl ⟨by decide, by decide⟩ (Nat.le_of_ble_eq_true rfl) dX10_holdsNow_41 ?_
        intro r8 τ9 h10
        obtain ⟨eh10, h10⟩ := h10; replace eh10 := eh10.symm; subst eh10
        refine s_imulL C tz6 dX10_holdsNow_44 (by omega) (fun z11 tz11 => ?_)
        refine s_iload_n C dX10_holdsNow_45 rfl ?_
        refine s_iadd C dX10_holdsNow_46 (by omega) (fun z12 tz12 => ?_)
        refine s_iald (r := (σ.1 78 z12.toNatClampNeg)) C y78 (by omega) rfl dX10_holdsNow_47 ?_
        refine s_aload_n C dX10_holdsNow_48 rfl ?_
        refine s_getr (k := 44) (j := 106) C y71 fw_X10_119 rfl dX10_holdsNow_49 ?_
        refine s_iload_n C dX10_holdsNow_52 rfl ?_
        refine s_iald (r := (σ.1 106 z.toNatClampNeg)) C y106 (by omega) rfl dX10_holdsNow_53 ?_
        have b13 := hnow z.toNatClampNeg
        refine s_icmp_le (tgt := 59) C dX10_holdsNow_54 (by decide) (fun q14 => ?_) (fun q14 => ?_)
        · refine s_iinc C dX10_holdsNow_59 rfl (by decide) rfl (by decide) (by omega) (fun z15 tz15 => ?_)
          show WP E ad 62 [some (.ref (ad 71)), some (.int p), some (.int z15)] [] σ
          refine s_goto (tgt := 12) C dX10_holdsNow_62 (by decide) ?_
          exact ih z15 (by omega) (by omega)
        · refine s_iconst C dX10_holdsNow_57 (by decide) (fun z16 tz16 => ?_)
          exact s_zret C (by omega) X dX10_holdsNow_58 ⟨rfl, by omega, fun H => by have h1 := H p.toInt.toNat z.toInt.toNat (by omega) (by omega) (by show 0 < (σ.1 106 p.toNatClampNeg).toInt; omega); rw [show 4 * (5 * p.toInt.toNat + (σ.1 106 p.toInt.toNat).toInt.toNat - 1) + z.toInt.toNat = z12.toNatClampNeg by (have e1 : (σ.1 106 p.toNatClampNeg).toInt = (σ.1 106 p.toInt.toNat).toInt := rfl; unfold Int32.toNatClampNeg at *; omega)] at h1; have h2 : (σ.1 78 z12.toNatClampNeg).toInt ≤ (σ.1 106 z.toNatClampNeg).toInt := h1; omega⟩
set_option maxRecDepth 100000 in
theorem L_holdsNow1 (l : Launch) (ad : Nat → Nat) (E : Ev) (σ : Sg) (hpr : 1 ≤ (σ.1 71 0).toInt ∧ (σ.1 71 0).toInt ≤ 4) (hnow : ∀ j, 0 ≤ (σ.1 106 j).toInt ∧ (σ.1 106 j).toInt ≤ 5) (C : Cx E l (rmk 1) 3 cX10_holdsNow RX10) (X : Rx E ad (some .boolean) (oI (fun r τ => τ = σ ∧ (r.toInt = 0 ∨ r.toInt = 1) ∧ ((∀ p q : Nat, (p : Int) < (σ.1 71 0).toInt → (q : Int) < (σ.1 71 0).toInt → 0 < (σ.1 106 p).toInt → (σ.1 78 (4 * (5 * p + (σ.1 106 p).toInt.toNat - 1) + q)).toInt ≤ (σ.1 106 q).toInt) → r.toInt = 1))))  : ∀ (n : Nat) (z : Int32), (0 ≤ z.toInt) → (4 - z.toInt).toNat < n → WP E ad 2 [some (.ref (ad 71)), some (.int z), none] [] σ := by
  intro n
  induction n with
  | zero => intro z h0 hm9; exact absurd hm9 (Nat.not_lt_zero _)
  | succ n ih =>
    intro z h0 hm9
    refine s_iload_n C dX10_holdsNow_2 rfl ?_
    refine s_aload_n C dX10_holdsNow_3 rfl ?_
    refine s_get (k := 0) (x := (σ.1 71 0)) C y71 fw_X10_9 rfl rfl dX10_holdsNow_4 ?_
    refine s_icmp_ge (tgt := 71) C dX10_holdsNow_7 (by decide) (fun q1 => ?_) (fun q1 => ?_)
    · refine s_iconst C dX10_holdsNow_71 (by decide) (fun z2 tz2 => ?_)
      exact s_zret C (by omega) X dX10_holdsNow_72 ⟨rfl, by omega, fun _ => by omega⟩
    · refine s_iconst C dX10_holdsNow_10 (by decide) (fun z3 tz3 => ?_)
      refine s_istore_n C dX10_holdsNow_11 (by decide) (Nat.le_of_ble_eq_true rfl) rfl ?_
      show WP E ad 12 [some (.ref (ad 71)), some (.int z), some (.int z3)] [] σ
      exact L_holdsNow2 l ad E σ hpr hnow z (by omega) C X (fun q hq => ih q (by omega) (by omega)) 100 z3 (by omega) (by omega)
set_option maxRecDepth 100000 in
theorem c_X10_holdsNow (l : Launch) (ad : Nat → Nat) (σ : Sg) (hpr : 1 ≤ (σ.1 71 0).toInt ∧ (σ.1 71 0).toInt ≤ 4) (hnow : ∀ j, 0 ≤ (σ.1 106 j).toInt ∧ (σ.1 106 j).toInt ≤ 5) : Mt l yX10_holdsNow cX10_holdsNow 3 (some .boolean) 1 ad σ [.ref (ad 71)] (oI (fun r τ => τ = σ ∧ (r.toInt = 0 ∨ r.toInt = 1) ∧ ((∀ p q : Nat, (p : Int) < (σ.1 71 0).toInt → (q : Int) < (σ.1 71 0).toInt → 0 < (σ.1 106 p).toInt → (σ.1 78 (4 * (5 * p + (σ.1 106 p).toInt.toNat - 1) + q)).toInt ≤ (σ.1 106 q).toInt) → r.toInt = 1))) := by
  refine Mt_intro (by decide +kernel) (by simp [lg_sl, Value.category]) (fun E C X => ?_)
  show WP E ad 0 [some (.ref (ad 71)), none, none] [] σ
  refine s_iconst C dX10_holdsNow_0 (by decide) (fun z1 tz1 => ?_)
  refine s_istore_n C dX10_holdsNow_1 (by decide) (Nat.le_of_ble_eq_true rfl) rfl ?_
  show WP E ad 2 [some (.ref (ad 71)), some (.int z1), none] [] σ
  exact L_holdsNow1 l ad E σ hpr hnow C X 100 z1 (by omega) (by omega)
