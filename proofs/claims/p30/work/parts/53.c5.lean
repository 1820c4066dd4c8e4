set_option maxRecDepth 100000 in
theorem c_X7_meetOf (l : Launch) (ad : Nat → Nat) (σ : Sg) (a : Int32) (b : Int32)  : Mt l yX7_meetOf cX7_meetOf 2 (some .int) 2 ad σ [.int a, .int b] (oI (fun r τ => τ = σ ∧ True)) := by
  refine Mt_intro (by decide +kernel) (by simp [lg_sl, Value.category]) (fun E C X => ?_)
  show WP E ad 0 [some (.int a), some (.int b)] [] σ
  refine s_iload_n C dX7_meetOf_0 rfl ?_
  refine s_iconst C dX7_meetOf_1 (by decide) (fun z1 tz1 => ?_)
  refine s_icmp_ne (tgt := 7) C dX7_meetOf_2 (by decide) (fun q2 => ?_) (fun q2 => ?_)
  · refine s_iload_n C dX7_meetOf_7 rfl ?_
    refine s_iconst C dX7_meetOf_8 (by decide) (fun z3 tz3 => ?_)
    refine s_icmp_ne (tgt := 16) C dX7_meetOf_9 (by decide) (fun q4 => ?_) (fun q4 => ?_)
    · refine s_iload_n C dX7_meetOf_16 rfl ?_
      refine s_iload_n C dX7_meetOf_17 rfl ?_
      refine s_callSI (st := []) C (c_X4_lesser l ad σ a b ) cv_X7_110 rfl rfl ⟨by decide, by decide⟩ (Nat.le_of_ble_eq_true rfl) dX7_meetOf_18 ?_
      intro r5 τ6 h7
      obtain ⟨eh7, h7⟩ := h7; replace eh7 := eh7.symm; subst eh7
      exact s_iret C X dX7_meetOf_21 ⟨rfl, trivial⟩
    · refine s_iload_n C dX7_meetOf_12 rfl ?_
      refine s_goto (tgt := 21) C dX7_meetOf_13 (by decide) ?_
      exact s_iret C X dX7_meetOf_21 ⟨rfl, trivial⟩
  · refine s_iload_n C dX7_meetOf_5 rfl ?_
    exact s_iret C X dX7_meetOf_6 ⟨rfl, trivial⟩
set_option maxRecDepth 100000 in
theorem L_pstep_0 (l : Launch) (ad : Nat → Nat) (E : Ev) (σ : Sg) (hX : IX σ.1) (i : Int32) (hi : 0 ≤ i.toInt ∧ i.toInt ≤ 1295) (C : Cx E l (rmk 2) 4 cX7_passableStep RX7) (X : Rx E ad (some .int) (oI (fun r τ => τ = σ ∧ (-1 ≤ r.toInt ∧ r.toInt < (σ.1 1 0).toInt))))  : ∀ (n : Nat) (z : Int32), (0 ≤ z.toInt) → (4 - z.toInt).toNat < n → WP E ad 2 [some (.ref (ad 37)), some (.int i), some (.int z), none] [] σ := by
  intro n
  induction n with
  | zero => intro z h0 hm9; exact absurd hm9 (Nat.not_lt_zero _)
  | succ n ih =>
    intro z h0 hm9
    have hpr := hX.pr
    have hsz := hX.sz
    refine s_iload_n C dX7_passableStep_2 rfl ?_
    refine s_aload_n C dX7_passableStep_3 rfl ?_
    refine s_getr (k := 2) (j := 1) C y37 fw_X7_46 rfl dX7_passableStep_4 ?_
    refine s_get (k := 0) (x := (σ.1 1 0)) C y1 fw_X7_80 rfl rfl dX7_passableStep_7 ?_
    refine s_icmp_ge (tgt := 46) C dX7_passableStep_10 (by decide) (fun q1 => ?_) (fun q1 => ?_)
    · refine s_iconst C dX7_passableStep_46 (by decide) (fun z2 tz2 => ?_)
      exact s_iret C X dX7_passableStep_47 ⟨rfl, by omega⟩
    · refine s_aload_n C dX7_passableStep_13 rfl ?_
      refine s_getr (k := 1) (j := 61) C y37 fw_X7_42 rfl dX7_passableStep_14 ?_
      refine s_iload_n C dX7_passableStep_17 rfl ?_
      refine s_iload_n C dX7_passableStep_18 rfl ?_
      refine s_callVI (st := []) C (c_X2_successor l ad σ i z hX (by omega) (by omega)) cv_X7_85 y61 rfl rfl rfl ⟨by decide, by decide⟩ (Nat.le_of_ble_eq_true rfl) dX7_passableStep_19 ?_
      intro r3 τ4 h5
      obtain ⟨eh5, h5⟩ := h5; replace eh5 := eh5.symm; subst eh5
      refine s_istore_n C dX7_passableStep_22 (by decide) (Nat.le_of_ble_eq_true rfl) rfl ?_
      show WP E ad 23 [some (.ref (ad 37)), some (.int i), some (.int z), some (.int r3)] [] σ
      refine s_iload_n C dX7_passableStep_23 rfl ?_
      refine s_if_lt (tgt := 40) C dX7_passableStep_24 (by decide) (fun q6 => ?_) (fun q6 => ?_)
      · refine s_iinc C dX7_passableStep_40 rfl (by decide) rfl (by decide) (by omega) (fun z7 tz7 => ?_)
        show WP E ad 43 [some (.ref (ad 37)), some (.int i), some (.int z7), some (.int r3)] [] σ
        refine s_goto (tgt := 2) C dX7_passableStep_43 (by decide) ?_
        refine wp_le (lv' := [some (.ref (ad 37)), some (.int i), some (.int z7), none]) ⟨rfl, ⟨rfl, ⟨rfl, trivial⟩⟩⟩ ?_
        exact ih z7 (by omega) (by omega)
      · refine s_aload_n C dX7_passableStep_27 rfl ?_
        refine s_getr (k := 8) (j := 49) C y37 fw_X7_28 rfl dX7_passableStep_28 ?_
        refine s_iload_n C dX7_passableStep_31 rfl ?_
        refine s_iald (r := (σ.1 49 r3.toNatClampNeg)) C y49 (by omega) rfl dX7_passableStep_32 ?_
        refine s_iconst C dX7_passableStep_33 (by decide) (fun z8 tz8 => ?_)
        refine s_iand C dX7_passableStep_34 (fun z9 tz9 => ?_)
        refine s_if_eq (tgt := 40) C dX7_passableStep_35 (by decide) (fun q10 => ?_) (fun q10 => ?_)
        · refine s_iinc C dX7_passableStep_40 rfl (by decide) rfl (by decide) (by omega) (fun z11 tz11 => ?_)
          show WP E ad 43 [some (.ref (ad 37)), some (.int i), some (.int z11), some (.int r3)] [] σ
          refine s_goto (tgt := 2) C dX7_passableStep_43 (by decide) ?_
          refine wp_le (lv' := [some (.ref (ad 37)), some (.int i), some (.int z11), none]) ⟨rfl, ⟨rfl, ⟨rfl, trivial⟩⟩⟩ ?_
          exact ih z11 (by omega) (by omega)
        · refine s_iload_n C dX7_passableStep_38 rfl ?_
          exact s_iret C X dX7_passableStep_39 ⟨rfl, by omega⟩
set_option maxRecDepth 100000 in
theorem c_X7_passableStep_0 (l : Launch) (ad : Nat → Nat) (σ : Sg) (i : Int32) (hX : IX σ.1) (hi : 0 ≤ i.toInt ∧ i.toInt ≤ 1295) : Mt l yX7_passableStep cX7_passableStep 4 (some .int) 2 ad σ [.ref (ad 37), .int i] (oI (fun r τ => τ = σ ∧ (-1 ≤ r.toInt ∧ r.toInt < (σ.1 1 0).toInt))) := by
  have hpr := hX.pr
  have hsz := hX.sz
  refine Mt_intro (by decide +kernel) (by simp [lg_sl, Value.category]) (fun E C X => ?_)
  show WP E ad 0 [some (.ref (ad 37)), some (.int i), none, none] [] σ
  refine s_iconst C dX7_passableStep_0 (by decide) (fun z1 tz1 => ?_)
  refine s_istore_n C dX7_passableStep_1 (by decide) (Nat.le_of_ble_eq_true rfl) rfl ?_
  show WP E ad 2 [some (.ref (ad 37)), some (.int i), some (.int z1), none] [] σ
  exact L_pstep_0 l ad E σ hX i hi C X 100 z1 (by omega) (by omega)
set_option maxRecDepth 100000 in
theorem L_flagMet_0 (l : Launch) (ad : Nat → Nat) (E : Ev) (σ : Sg) (C : Cx E l (rmk 4) 3 cX7_flagMet RX7) (X : Rx E ad none (oV (fun τ => IX τ.1 ∧ Fr [49, 50, 51] [(37, 3), (37, 4), (37, 5), (37, 6), (37, 7)] σ τ ∧ True)))  : ∀ (n : Nat) (τ : Sg) (z : Int32), (Fr [49, 50, 51] [(37, 3), (37, 4), (37, 5), (37, 6), (37, 7)] σ τ) → (IX τ.1) → (0 ≤ z.toInt) → (1296 - z.toInt).toNat < n → WP E ad 7 [some (.ref (ad 37)), some (.int z), none] [] τ := by
  intro n
  induction n with
  | zero => intro τ z kF hXτ h0 hm9; exact absurd hm9 (Nat.not_lt_zero _)
  | succ n ih =>
    intro τ z kF hXτ h0 hm9
    have hpr := hXτ.pr
    have hsz := hXτ.sz
    refine s_iload_n C dX7_flagMet_7 rfl ?_
    refine s_aload_n C dX7_flagMet_8 rfl ?_
    refine s_getr (k := 1) (j := 61) C y37 fw_X7_42 rfl dX7_flagMet_9 ?_
    refine s_get (k := 2) (x := (τ.1 61 2)) C y61 fw_X7_62 rfl rfl dX7_flagMet_12 ?_
    refine s_icmp_ge (tgt := 82) C dX7_flagMet_15 (by decide) (fun q1 => ?_) (fun q1 => ?_)
    · exact s_vret C X dX7_flagMet_82 ⟨hXτ, kF, trivial⟩
    · refine s_aload_n C dX7_flagMet_18 rfl ?_
      refine s_getr (k := 0) (j := 31) C y37 fw_X7_38 rfl dX7_flagMet_19 ?_
      refine s_aload_n C dX7_flagMet_22 rfl ?_
      refine s_getr (k := 2) (j := 1) C y37 fw_X7_46 rfl dX7_flagMet_23 ?_
      refine s_aload_n C dX7_flagMet_26 rfl ?_
      refine s_getr (k := 1) (j := 61) C y37 fw_X7_42 rfl dX7_flagMet_27 ?_
      refine s_getr (k := 3) (j := 62) C y61 fw_X7_67 rfl dX7_flagMet_30 ?_
      refine s_iload_n C dX7_flagMet_33 rfl ?_
      refine s_iald (r := (τ.1 62 z.toNatClampNeg)) C y62 (by omega) rfl dX7_flagMet_34 ?_
      refine s_aload_n C dX7_flagMet_35 rfl ?_
      refine s_getr (k := 10) (j := 51) C y37 fw_X7_35 rfl dX7_flagMet_36 ?_
      refine s_callVI (st := []) C (c_X0_isMet_0 l ad τ ((τ.1 62 z.toNatClampNeg)) hXτ (hXτ.rw _)) cv_X7_70 y31 rfl rfl rfl ⟨by decide, by decide⟩ (Nat.le_of_ble_eq_true rfl) dX7_flagMet_39 ?_
      intro r2 τ3 h4
      have bh4 := h4.2
      have hXτ3 : IX τ3.1 := IX.keep hXτ h4.1 (by decide) (by decide) (by decide)
      refine s_istore_n C dX7_flagMet_42 (by decide) (Nat.le_of_ble_eq_true rfl) rfl ?_
      show WP E ad 43 [some (.ref (ad 37)), some (.int z), some (.int r2)] [] τ3
      refine s_aload_n C dX7_flagMet_43 rfl ?_
      refine s_getr (k := 8) (j := 49) C y37 fw_X7_28 rfl dX7_flagMet_44 ?_
      refine s_iload_n C dX7_flagMet_47 rfl ?_
      refine s_iload_n C dX7_flagMet_48 rfl ?_
      refine s_if_eq (tgt := 56) C dX7_flagMet_49 (by decide) (fun q5 => ?_) (fun q5 => ?_)
      · refine s_iconst C dX7_flagMet_56 (by decide) (fun z6 tz6 => ?_)
        refine s_iast C y49 (by omega) dX7_flagMet_57 ?_
        refine s_aload_n C dX7_flagMet_58 rfl ?_
        refine s_dup C dX7_flagMet_59 rfl ?_
        refine s_get (k := 6) (x := (τ3.1 37 6)) C y37 fw_X7_21 rfl rfl dX7_flagMet_60 ?_
        refine s_iload_n C dX7_flagMet_63 rfl ?_
        refine s_if_eq (tgt := 71) C dX7_flagMet_64 (by decide) (fun q7 => ?_) (fun q7 => ?_)
        · refine s_iconst C dX7_flagMet_71 (by decide) (fun z8 tz8 => ?_)
          refine s_iaddU C dX7_flagMet_72 (fun z9 tz9 => ?_)
          refine s_put (k := 6) C y37 fw_X7_21 fp_6_6 rfl dX7_flagMet_73 ?_
          refine s_iinc C dX7_flagMet_76 rfl (by decide) rfl (by decide) (by omega) (fun z10 tz10 => ?_)
          show WP E ad 79 [some (.ref (ad 37)), some (.int z10), some (.int r2)] [] (sV (sV τ3 49 z.toNatClampNeg z6) 37 6 z9)
          refine s_goto (tgt := 7) C dX7_flagMet_79 (by decide) ?_
          refine wp_le (lv' := [some (.ref (ad 37)), some (.int z10), none]) ⟨rfl, ⟨rfl, trivial⟩⟩ ?_
          exact ih (sV (sV τ3 49 z.toNatClampNeg z6) 37 6 z9) z10 (Fr.sV (Fr.sV (Fr.tr (Fr.tr Fr.rf (Fr.mo kF (by decide) (by decide))) (Fr.mo h4.1 (by decide) (by decide))) (Or.inl (by decide))) (Or.inr (by decide))) hXτ3 (by omega) (by omega)
        · refine s_iconst C dX7_flagMet_67 (by decide) (fun z11 tz11 => ?_)
          refine s_goto (tgt := 72) C dX7_flagMet_68 (by decide) ?_
          refine s_iaddU C dX7_flagMet_72 (fun z12 tz12 => ?_)
          refine s_put (k := 6) C y37 fw_X7_21 fp_6_6 rfl dX7_flagMet_73 ?_
          refine s_iinc C dX7_flagMet_76 rfl (by decide) rfl (by decide) (by omega) (fun z13 tz13 => ?_)
          show WP E ad 79 [some (.ref (ad 37)), some (.int z13), some (.int r2)] [] (sV (sV τ3 49 z.toNatClampNeg z6) 37 6 z12)
          refine s_goto (tgt := 7) C dX7_flagMet_79 (by decide) ?_
          refine wp_le (lv' := [some (.ref (ad 37)), some (.int z13), none]) ⟨rfl, ⟨rfl, trivial⟩⟩ ?_
          exact ih (sV (sV τ3 49 z.toNatClampNeg z6) 37 6 z12) z13 (Fr.sV (Fr.sV (Fr.tr (Fr.tr Fr.rf (Fr.mo kF (by decide) (by decide))) (Fr.mo h4.1 (by decide) (by decide))) (Or.inl (by decide))) (Or.inr (by decide))) hXτ3 (by omega) (by omega)
      · refine s_iconst C dX7_flagMet_52 (by decide) (fun z14 tz14 => ?_)
        refine s_goto (tgt := 57) C dX7_flagMet_53 (by decide) ?_
        refine s_iast C y49 (by omega) dX7_flagMet_57 ?_
        refine s_aload_n C dX7_flagMet_58 rfl ?_
        refine s_dup C dX7_flagMet_59 rfl ?_
        refine s_get (k := 6) (x := (τ3.1 37 6)) C y37 fw_X7_21 rfl rfl dX7_flagMet_60 ?_
        refine s_iload_n C dX7_flagMet_63 rfl ?_
        refine s_if_eq (tgt := 71) C dX7_flagMet_64 (by decide) (fun q15 => ?_) (fun q15 => ?_)
        · refine s_iconst C dX7_flagMet_71 (by decide) (fun z16 tz16 => ?_)
          refine s_iaddU C dX7_flagMet_72 (fun z17 tz17 => ?_)
          refine s_put (k := 6) C y37 fw_X7_21 fp_6_6 rfl dX7_flagMet_73 ?_
          refine s_iinc C dX7_flagMet_76 rfl (by decide) rfl (by decide) (by omega) (fun z18 tz18 => ?_)
          show WP E ad 79 [some (.ref (ad 37)), some (.int z18), some (.int r2)] [] (sV (sV τ3 49 z.toNatClampNeg z14) 37 6 z17)
          refine s_goto (tgt := 7) C dX7_flagMet_79 (by decide) ?_
          refine wp_le (lv' := [some (.ref (ad 37)), some (.int z18), none]) ⟨rfl, ⟨rfl, trivial⟩⟩ ?_
          exact ih (sV (sV τ3 49 z.toNatClampNeg z14) 37 6 z17) z18 (Fr.sV (Fr.sV (Fr.tr (Fr.tr Fr.rf (Fr.mo kF (by decide) (by decide))) (Fr.mo h4.1 (by decide) (by decide))) (Or.inl (by decide))) (Or.inr (by decide))) hXτ3 (by omega) (by omega)
        · refine s_iconst C dX7_flagMet_67 (by decide) (fun z19 tz19 => ?_)
          refine s_goto (tgt := 72) C dX7_flagMet_68 (by decide) ?_
          refine s_iaddU C dX7_flagMet_72 (fun z20 tz20 => ?_)
          refine s_put (k := 6) C y37 fw_X7_21 fp_6_6 rfl dX7_flagMet_73 ?_
          refine s_iinc C dX7_flagMet_76 rfl (by decide) rfl (by decide) (by omega) (fun z21 tz21 => ?_)
          show WP E ad 79 [some (.ref (ad 37)), some (.int z21), some (.int r2)] [] (sV (sV τ3 49 z.toNatClampNeg z14) 37 6 z20)
          refine s_goto (tgt := 7) C dX7_flagMet_79 (by decide) ?_
          refine wp_le (lv' := [some (.ref (ad 37)), some (.int z21), none]) ⟨rfl, ⟨rfl, trivial⟩⟩ ?_
          exact ih (sV (sV τ3 49 z.toNatClampNeg z14) 37 6 z20) z21 (Fr.sV (Fr.sV (Fr.tr (Fr.tr Fr.rf (Fr.mo kF (by decide) (by decide))) (Fr.mo h4.1 (by decide) (by decide))) (Or.inl (by decide))) (Or.inr (by decide))) hXτ3 (by omega) (by omega)
set_option maxRecDepth 100000 in
theorem c_X7_flagMet_0 (l : Launch) (ad : Nat → Nat) (σ : Sg)  (hX : IX σ.1)  : Mt l yX7_flagMet cX7_flagMet 3 none 4 ad σ [.ref (ad 37)] (oV (fun τ => IX τ.1 ∧ Fr [49, 50, 51] [(37, 3), (37, 4), (37, 5), (37, 6), (37, 7)] σ τ ∧ True)) := by
  have hpr := hX.pr
  have hsz := hX.sz
  refine Mt_intro (by decide +kernel) (by simp [lg_sl, Value.category]) (fun E C X => ?_)
  show WP E ad 0 [some (.ref (ad 37)), none, none] [] σ
  refine s_aload_n C dX7_flagMet_0 rfl ?_
  refine s_iconst C dX7_flagMet_1 (by decide) (fun z1 tz1 => ?_)
  refine s_put (k := 6) C y37 fw_X7_21 fp_6_6 rfl dX7_flagMet_2 ?_
  refine s_iconst C dX7_flagMet_5 (by decide) (fun z2 tz2 => ?_)
  refine s_istore_n C dX7_flagMet_6 (by decide) (Nat.le_of_ble_eq_true rfl) rfl ?_
  show WP E ad 7 [some (.ref (ad 37)), some (.int z2), none] [] (sV σ 37 6 z1)
  exact L_flagMet_0 l ad E σ  C X 5000 (sV σ 37 6 z1) z2 (Fr.sV Fr.rf (Or.inr (by decide))) hX (by omega) (by omega)
set_option maxRecDepth 100000 in
theorem L_flagP_0 (l : Launch) (ad : Nat → Nat) (E : Ev) (σ : Sg) (b : Int32) (C : Cx E l (rmk 3) 3 cX7_flagPassable RX7) (X : Rx E ad none (oV (fun τ => IX τ.1 ∧ Fr [49, 50, 51] [(37, 3), (37, 4), (37, 5), (37, 6), (37, 7)] σ τ ∧ True)))  : ∀ (n : Nat) (τ : Sg) (z : Int32), (Fr [49, 50, 51] [(37, 3), (37, 4), (37, 5), (37, 6), (37, 7)] σ τ) → (IX τ.1) → (-1 ≤ z.toInt ∧ z.toInt ≤ 1295) → (z.toInt + 1).toNat < n → WP E ad 12 [some (.ref (ad 37)), some (.int b), some (.int z)] [] τ := by
  intro n
  induction n with
  | zero => intro τ z kF hXτ h0 hm9; exact absurd hm9 (Nat.not_lt_zero _)
  | succ n ih =>
    intro τ z kF hXτ h0 hm9
    have hpr := hXτ.pr
    have hsz := hXτ.sz
    refine s_iload_n C dX7_flagPassable_12 rfl ?_
    refine s_if_lt (tgt := 56) C dX7_flagPassable_13 (by decide) (fun q1 => ?_) (fun q1 => ?_)
    · exact s_vret C X dX7_flagPassable_56 ⟨hXτ, kF, trivial⟩
    · refine s_aload_n C dX7_flagPassable_16 rfl ?_
      refine s_getr (k := 8) (j := 49) C y37 fw_X7_28 rfl dX7_flagPassable_17 ?_
      refine s_iload_n C dX7_flagPassable_20 rfl ?_
      refine s_iald (r := (τ.1 49 z.toNatClampNeg)) C y49 (by omega) rfl dX7_flagPassable_21 ?_
      refine s_iconst C dX7_flagPassable_22 (by decide) (fun z2 tz2 => ?_)
      refine s_iand C dX7_flagPassable_23 (fun z3 tz3 => ?_)
      refine s_if_ne (tgt := 50) C dX7_flagPassable_24 (by decide) (fun q4 => ?_) (fun q4 => ?_)
      · refine s_iinc C dX7_flagPassable_50 rfl (by decide) rfl (by decide) (by omega) (fun z5 tz5 => ?_)
        show WP E ad 53 [some (.ref (ad 37)), some (.int b), some (.int z5)] [] τ
        refine s_goto (tgt := 12) C dX7_flagPassable_53 (by decide) ?_
        exact ih τ z5 (Fr.tr Fr.rf (Fr.mo kF (by decide) (by decide))) hXτ (by omega) (by omega)
      · refine s_iload_n C dX7_flagPassable_27 rfl ?_
        refine s_iload_n C dX7_flagPassable_28 rfl ?_
        refine s_icmp_eq (tgt := 40) C dX7_flagPassable_29 (by decide) (fun q6 => ?_) (fun q6 => ?_)
        · refine s_aload_n C dX7_flagPassable_40 rfl ?_
          refine s_getr (k := 8) (j := 49) C y37 fw_X7_28 rfl dX7_flagPassable_41 ?_
          refine s_iload_n C dX7_flagPassable_44 rfl ?_
          refine s_dup2 C dX7_flagPassable_45 rfl rfl ?_
          refine s_iald (r := (τ.1 49 z.toNatClampNeg)) C y49 (by omega) rfl dX7_flagPassable_46 ?_
          refine s_iconst C dX7_flagPassable_47 (by decide) (fun z7 tz7 => ?_)
          refine s_ior C dX7_flagPassable_48 (fun z8 tz8 => ?_)
          refine s_iast C y49 (by omega) dX7_flagPassable_49 ?_
          refine s_iinc C dX7_flagPassable_50 rfl (by decide) rfl (by decide) (by omega) (fun z9 tz9 => ?_)
          show WP E ad 53 [some (.ref (ad 37)), some (.int b), some (.int z9)] [] (sV τ 49 z.toNatClampNeg z8)
          refine s_goto (tgt := 12) C dX7_flagPassable_53 (by decide) ?_
          exact ih (sV τ 49 z.toNatClampNeg z8) z9 (Fr.sV (Fr.tr Fr.rf (Fr.mo kF (by decide) (by decide))) (Or.inl (by decide))) hXτ (by omega) (by omega)
        · refine s_aload_n C dX7_flagPassable_32 rfl ?_
          refine s_iload_n C dX7_flagPassable_33 rfl ?_
          refine s_callVI (st := []) C (c_X7_passableStep_0 l ad τ z hXτ (by omega)) cv_X7_76 y37 rfl rfl rfl ⟨by decide, by decide⟩ (Nat.le_of_ble_eq_true rfl) dX7_flagPassable_34 ?_
          intro r10 τ11 h12
          obtain ⟨eh12, h12⟩ := h12; replace eh12 := eh12.symm; subst eh12
          refine s_if_lt (tgt := 50) C dX7_flagPassable_37 (by decide) (fun q13 => ?_) (fun q13 => ?_)
          · refine s_iinc C dX7_flagPassable_50 rfl (by decide) rfl (by decide) (by omega) (fun z14 tz14 => ?_)
            show WP E ad 53 [some (.ref (ad 37)), some (.int b), some (.int z14)] [] τ
            refine s_goto (tgt := 12) C dX7_flagPassable_53 (by decide) ?_
            exact ih τ z14 (Fr.tr Fr.rf (Fr.mo kF (by decide) (by decide))) hXτ (by omega) (by omega)
          · refine s_aload_n C dX7_flagPassable_40 rfl ?_
            refine s_getr (k := 8) (j := 49) C y37 fw_X7_28 rfl dX7_flagPassable_41 ?_
            refine s_iload_n C dX7_flagPassable_44 rfl ?_
            refine s_dup2 C dX7_flagPassable_45 rfl rfl ?_
            refine s_iald (r := (τ.1 49 z.toNatClampNeg)) C y49 (by omega) rfl dX7_flagPassable_46 ?_
            refine s_iconst C dX7_flagPassable_47 (by decide) (fun z15 tz15 => ?_)
            refine s_ior C dX7_flagPassable_48 (fun z16 tz16 => ?_)
            refine s_iast C y49 (by omega) dX7_flagPassable_49 ?_
            refine s_iinc C dX7_flagPassable_50 rfl (by decide) rfl (by decide) (by omega) (fun z17 tz17 => ?_)
            show WP E ad 53 [some (.ref (ad 37)), some (.int b), some (.int z17)] [] (sV τ 49 z.toNatClampNeg z16)
            refine s_goto (tgt := 12) C dX7_flagPassable_53 (by decide) ?_
            exact ih (sV τ 49 z.toNatClampNeg z16) z17 (Fr.sV (Fr.tr Fr.rf (Fr.mo kF (by decide) (by decide))) (Or.inl (by decide))) hXτ (by omega) (by omega)
set_option maxRecDepth 100000 in
theorem c_X7_flagPassable_0 (l : Launch) (ad : Nat → Nat) (σ : Sg)  (hX : IX σ.1)  : Mt l yX7_flagPassable cX7_flagPassable 3 none 3 ad σ [.ref (ad 37)] (oV (fun τ => IX τ.1 ∧ Fr [49, 50, 51] [(37, 3), (37, 4), (37, 5), (37, 6), (37, 7)] σ τ ∧ True)) := by
  have hpr := hX.pr
  have hsz := hX.sz
  refine Mt_intro (by decide +kernel) (by simp [lg_sl, Value.category]) (fun E C X => ?_)
  show WP E ad 0 [some (.ref (ad 37)), none, none] [] σ
  refine s_aload_n C dX7_flagPassable_0 rfl ?_
  refine s_getr (k := 1) (j := 61) C y37 fw_X7_42 rfl dX7_flagPassable_1 ?_
  refine s_get (k := 2) (x := (σ.1 61 2)) C y61 fw_X7_62 rfl rfl dX7_flagPassable_4 ?_
  refine s_iconst C dX7_flagPassable_7 (by decide) (fun z1 tz1 => ?_)
  refine s_isub C dX7_flagPassable_8 (by omega) (fun z2 tz2 => ?_)
  refine s_istore_n C dX7_flagPassable_9 (by decide) (Nat.le_of_ble_eq_true rfl) rfl ?_
  show WP E ad 10 [some (.ref (ad 37)), some (.int z2), none] [] σ
  refine s_iload_n C dX7_flagPassable_10 rfl ?_
  refine s_istore_n C dX7_flagPassable_11 (by decide) (Nat.le_of_ble_eq_true rfl) rfl ?_
  show WP E ad 12 [some (.ref (ad 37)), some (.int z2), some (.int z2)] [] σ
  exact L_flagP_0 l ad E σ z2 C X 5000 σ z2 Fr.rf hX (by omega) (by omega)
set_option maxRecDepth 100000 in
theorem L_gather_0 (l : Launch) (ad : Nat → Nat) (E : Ev) (σ : Sg) (a : Int32) (hg : GR a) (C : Cx E l (rmk 3) 4 cX7_gather RX7) (X : Rx E ad none (oV (fun τ => IX τ.1 ∧ Fr [49, 50, 51] [(37, 3), (37, 4), (37, 5), (37, 6), (37, 7)] σ τ ∧ True)))  : ∀ (n : Nat) (τ : Sg) (z : Int32), (Fr [49, 50, 51] [(37, 3), (37, 4), (37, 5), (37, 6), (37, 7)] σ τ) → (IX τ.1) → (0 ≤ z.toInt) → (4 - z.toInt).toNat < n → WP E ad 2 [some (.ref (ad 37)), some (.int a), some (.int z), none] [] τ := by
  intro n
  induction n with
  | zero => intro τ z kF hXτ h0 hm9; exact absurd hm9 (Nat.not_lt_zero _)
  | succ n ih =>
    intro τ z kF hXτ h0 hm9
    have hpr := hXτ.pr
    have hsz := hXτ.sz
    refine s_iload_n C dX7_gather_2 rfl ?_
    refine s_aload_n C dX7_gather_3 rfl ?_
    refine s_getr (k := 2) (j := 1) C y37 fw_X7_46 rfl dX7_gather_4 ?_
    refine s_get (k := 0) (x := (τ.1 1 0)) C y1 fw_X7_80 rfl rfl dX7_gather_7 ?_
    refine s_icmp_ge (tgt := 53) C dX7_gather_10 (by decide) (fun q1 => ?_) (fun q1 => ?_)
    · exact s_vret C X dX7_gather_53 ⟨hXτ, kF, trivial⟩
    · refine s_iload_n C dX7_gather_13 rfl ?_
      refine s_bipush C dX7_gather_14 (by decide) (fun z2 tz2 => ?_)
      refine s_imulR C tz2 dX7_gather_16 (by omega) (fun z3 tz3 => ?_)
      refine s_iload_n C dX7_gather_17 rfl ?_
      refine s_aload_n C dX7_gather_18 rfl ?_
      refine s_getr (k := 2) (j := 1) C y37 fw_X7_46 rfl dX7_gather_19 ?_
      refine s_iload_n C dX7_gather_22 rfl ?_
      refine s_callVI (st := [.int a, .int z3]) C (c_X5_placeOf l ad τ z (by omega) (by omega)) cv_X7_102 y1 rfl rfl rfl ⟨by decide, by decide⟩ (Nat.le_of_ble_eq_true rfl) dX7_gather_23 ?_
      intro r4 τ5 h6
      obtain ⟨eh6, h6⟩ := h6; replace eh6 := eh6.symm; subst eh6
      refine s_callSI (st := [.int z3]) C (c_X4_at l ad τ a r4 ) cv_X7_105 rfl rfl ⟨by decide, by decide⟩ (Nat.le_of_ble_eq_true rfl) dX7_gather_26 ?_
      intro r7 τ8 h9
      obtain ⟨eh9, h9⟩ := h9; replace eh9 := eh9.symm; subst eh9
      have gh9 : r7.toInt ≤ 5 := by rw [h9.1]; exact GR.at5 hg (by omega)
      refine s_iadd C dX7_gather_29 (by omega) (fun z10 tz10 => ?_)
      refine s_istore_n C dX7_gather_30 (by decide) (Nat.le_of_ble_eq_true rfl) rfl ?_
      show WP E ad 31 [some (.ref (ad 37)), some (.int a), some (.int z), some (.int z10)] [] τ
      refine s_aload_n C dX7_gather_31 rfl ?_
      refine s_getr (k := 9) (j := 50) C y37 fw_X7_32 rfl dX7_gather_32 ?_
      refine s_iload_n C dX7_gather_35 rfl ?_
      refine s_aload_n C dX7_gather_36 rfl ?_
      refine s_getr (k := 9) (j := 50) C y37 fw_X7_32 rfl dX7_gather_37 ?_
      refine s_iload_n C dX7_gather_40 rfl ?_
      refine s_iald (r := (τ.1 50 z10.toNatClampNeg)) C y50 (by omega) rfl dX7_gather_41 ?_
      refine s_iload_n C dX7_gather_42 rfl ?_
      refine s_callSI (st := [.int z10, .ref (ad 50)]) C (c_X7_meetOf l ad τ ((τ.1 50 z10.toNatClampNeg)) a ) cv_X7_99 rfl rfl ⟨by decide, by decide⟩ (Nat.le_of_ble_eq_true rfl) dX7_gather_43 ?_
      intro r11 τ12 h13
      obtain ⟨eh13, h13⟩ := h13; replace eh13 := eh13.symm; subst eh13
      refine s_iast C y50 (by omega) dX7_gather_46 ?_
      refine s_iinc C dX7_gather_47 rfl (by decide) rfl (by decide) (by omega) (fun z14 tz14 => ?_)
      show WP E ad 50 [some (.ref (ad 37)), some (.int a), some (.int z14), some (.int z10)] [] (sV τ 50 z10.toNatClampNeg r11)
      refine s_goto (tgt := 2) C dX7_gather_50 (by decide) ?_
      refine wp_le (lv' := [some (.ref (ad 37)), some (.int a), some (.int z14), none]) ⟨rfl, ⟨rfl, ⟨rfl, trivial⟩⟩⟩ ?_
      exact ih (sV τ 50 z10.toNatClampNeg r11) z14 (Fr.sV (Fr.tr Fr.rf (Fr.mo kF (by decide) (by decide))) (Or.inl (by decide))) hXτ (by omega) (by omega)
set_option maxRecDepth 100000 in
theorem c_X7_gather_0 (l : Launch) (ad : Nat → Nat) (σ : Sg) (a : Int32) (hX : IX σ.1) (hg : GR a) : Mt l yX7_gather cX7_gather 4 none 3 ad σ [.ref (ad 37), .int a] (oV (fun τ => IX τ.1 ∧ Fr [49, 50, 51] [(37, 3), (37, 4), (37, 5), (37, 6), (37, 7)] σ τ ∧ True)) := by
  have hpr := hX.pr
  have hsz := hX.sz
  refine Mt_intro (by decide +kernel) (by simp [lg_sl, Value.category]) (fun E C X => ?_)
  show WP E ad 0 [some (.ref (ad 37)), some (.int a), none, none] [] σ
  refine s_iconst C dX7_gather_0 (by decide) (fun z1 tz1 => ?_)
  refine s_istore_n C dX7_gather_1 (by decide) (Nat.le_of_ble_eq_true rfl) rfl ?_
  show WP E ad 2 [some (.ref (ad 37)), some (.int a), some (.int z1), none] [] σ
  exact L_gather_0 l ad E σ a hg C X 100 σ z1 Fr.rf hX (by omega) (by omega)
set_option maxRecDepth 100000 in
theorem L_glr66_0 (l : Launch) (ad : Nat → Nat) (E : Ev) (σ : Sg) (p : Int32) (hp : 0 ≤ p.toInt ∧ p.toInt ≤ 3) (C : Cx E l (rmk 4) 4 cX7_gatherLeastRows RX7) (X : Rx E ad none (oV (fun τ => IX τ.1 ∧ Fr [49, 50, 51] [(37, 3), (37, 4), (37, 5), (37, 6), (37, 7)] σ τ ∧ True))) (K : ∀ (υ : Sg) (p2 : Int32), Fr [49, 50, 51] [(37, 3), (37, 4), (37, 5), (37, 6), (37, 7)] σ υ → IX υ.1 → p2.toInt = p.toInt + 1 → WP E ad 53 [some (.ref (ad 37)), some (.int p2), none, none] [] υ) : ∀ (n : Nat) (τ : Sg) (z : Int32), (Fr [49, 50, 51] [(37, 3), (37, 4), (37, 5), (37, 6), (37, 7)] σ τ) → (IX τ.1) → (-1 ≤ z.toInt ∧ z.toInt ≤ 4) → (z.toInt + 1).toNat < n → WP E ad 66 [some (.ref (ad 37)), some (.int p), some (.int z), none] [] τ := by
  intro n
  induction n with
  | zero => intro τ z kF hXτ h0 hm9; exact absurd hm9 (Nat.not_lt_zero _)
  | succ n ih =>
    intro τ z kF hXτ h0 hm9
    refine s_iload_n C dX7_gatherLeastRows_66 rfl ?_
    refine s_if_lt (tgt := 106) C dX7_gatherLeastRows_67 (by decide) (fun q1 => ?_) (fun q1 => ?_)
    · refine s_iinc C dX7_gatherLeastRows_106 rfl (by decide) rfl (by decide) (by omega) (fun z2 tz2 => ?_)
      show WP E ad 109 [some (.ref (ad 37)), some (.int z2), some (.int z), none] [] τ
      refine s_goto (tgt := 53) C dX7_gatherLeastRows_109 (by decide) ?_
      refine wp_le (lv' := [some (.ref (ad 37)), some (.int z2), none, none]) ⟨rfl, ⟨rfl, trivial⟩⟩ ?_
      exact K τ z2 (Fr.tr Fr.rf (Fr.mo kF (by decide) (by decide))) hXτ (by omega)
    · refine s_iload_n C dX7_gatherLeastRows_70 rfl ?_
      refine s_bipush C dX7_gatherLeastRows_71 (by decide) (fun z3 tz3 => ?_)
      refine s_imulR C tz3 dX7_gatherLeastRows_73 (by omega) (fun z4 tz4 => ?_)
      refine s_iload_n C dX7_gatherLeastRows_74 rfl ?_
      refine s_iadd C dX7_gatherLeastRows_75 (by omega) (fun z5 tz5 => ?_)
      refine s_istore_n C dX7_gatherLeastRows_76 (by decide) (Nat.le_of_ble_eq_true rfl) rfl ?_
      show WP E ad 77 [some (.ref (ad 37)), some (.int p), some (.int z), some (.int z5)] [] τ
      refine s_aload_n C dX7_gatherLeastRows_77 rfl ?_
      refine s_getr (k := 9) (j := 50) C y37 fw_X7_32 rfl dX7_gatherLeastRows_78 ?_
      refine s_iload_n C dX7_gatherLeastRows_81 rfl ?_
      refine s_aload_n C dX7_gatherLeastRows_82 rfl ?_
      refine s_getr (k := 9) (j := 50) C y37 fw_X7_32 rfl dX7_gatherLeastRows_83 ?_
      refine s_iload_n C dX7_gatherLeastRows_86 rfl ?_
      refine s_iald (r := (τ.1 50 z5.toNatClampNeg)) C y50 (by omega) rfl dX7_gatherLeastRows_87 ?_
      refine s_aload_n C dX7_gatherLeastRows_88 rfl ?_
      refine s_getr (k := 9) (j := 50) C y37 fw_X7_32 rfl dX7_gatherLeastRows_89 ?_
      refine s_iload_n C dX7_gatherLeastRows_92 rfl ?_
      refine s_iconst C dX7_gatherLeastRows_93 (by decide) (fun z6 tz6 => ?_)
      refine s_iadd C dX7_gatherLeastRows_94 (by omega) (fun z7 tz7 => ?_)
      refine s_iald (r := (τ.1 50 z7.toNatClampNeg)) C y50 (by omega) rfl dX7_gatherLeastRows_95 ?_
      refine s_callSI (st := [.int z5, .ref (ad 50)]) C (c_X7_meetOf l ad τ ((τ.1 50 z5.toNatClampNeg)) ((τ.1 50 z7.toNatClampNeg)) ) cv_X7_99 rfl rfl ⟨by decide, by decide⟩ (Nat.le_of_ble_eq_true rfl) dX7_gatherLeastRows_96 ?_
      intro r8 τ9 h10
      obtain ⟨eh10, h10⟩ := h10; replace eh10 := eh10.symm; subst eh10
      refine s_iast C y50 (by omega) dX7_gatherLeastRows_99 ?_
      refine s_iinc C dX7_gatherLeastRows_100 rfl (by decide) rfl (by decide) (by omega) (fun z11 tz11 => ?_)
      show WP E ad 103 [some (.ref (ad 37)), some (.int p), some (.int z11), some (.int z5)] [] (sV τ 50 z5.toNatClampNeg r8)
      refine s_goto (tgt := 66) C dX7_gatherLeastRows_103 (by decide) ?_
      refine wp_le (lv' := [some (.ref (ad 37)), some (.int p), some (.int z11), none]) ⟨rfl, ⟨rfl, ⟨rfl, trivial⟩⟩⟩ ?_
      exact ih (sV τ 50 z5.toNatClampNeg r8) z11 (Fr.sV (Fr.tr Fr.rf (Fr.mo kF (by decide) (by decide))) (Or.inl (by decide))) hXτ (by omega) (by omega)
set_option maxRecDepth 100000 in
theorem L_glr53_0 (l : Launch) (ad : Nat → Nat) (E : Ev) (σ : Sg) (C : Cx E l (rmk 4) 4 cX7_gatherLeastRows RX7) (X : Rx E ad none (oV (fun τ => IX τ.1 ∧ Fr [49, 50, 51] [(37, 3), (37, 4), (37, 5), (37, 6), (37, 7)] σ τ ∧ True)))  : ∀ (n : Nat) (τ : Sg) (z : Int32), (Fr [49, 50, 51] [(37, 3), (37, 4), (37, 5), (37, 6), (37, 7)] σ τ) → (IX τ.1) → (0 ≤ z.toInt) → (4 - z.toInt).toNat < n → WP E ad 53 [some (.ref (ad 37)), some (.int z), none, none] [] τ := by
  intro n
  induction n with
  | zero => intro τ z kF hXτ h0 hm9; exact absurd hm9 (Nat.not_lt_zero _)
  | succ n ih =>
    intro τ z kF hXτ h0 hm9
    have hpr := hXτ.pr
    have hsz := hXτ.sz
    refine s_iload_n C dX7_gatherLeastRows_53 rfl ?_
    refine s_aload_n C dX7_gatherLeastRows_54 rfl ?_
    refine s_getr (k := 2) (j := 1) C y37 fw_X7_46 rfl dX7_gatherLeastRows_55 ?_
    refine s_get (k := 0) (x := (τ.1 1 0)) C y1 fw_X7_80 rfl rfl dX7_gatherLeastRows_58 ?_
    refine s_icmp_ge (tgt := 112) C dX7_gatherLeastRows_61 (by decide) (fun q1 => ?_) (fun q1 => ?_)
    · exact s_vret C X dX7_gatherLeastRows_112 ⟨hXτ, kF, trivial⟩
    · refine s_iconst C dX7_gatherLeastRows_64 (by decide) (fun z2 tz2 => ?_)
      refine s_istore_n C dX7_gatherLeastRows_65 (by decide) (Nat.le_of_ble_eq_true rfl) rfl ?_
      show WP E ad 66 [some (.ref (ad 37)), some (.int z), some (.int z2), none] [] τ
      exact L_glr66_0 l ad E σ z (by omega) C X (fun υ p2 h1 h2 h3 => ih υ p2 h1 h2 (by omega) (by omega)) 100 τ z2 (Fr.tr Fr.rf (Fr.mo kF (by decide) (by decide))) hXτ (by omega) (by omega)
set_option maxRecDepth 100000 in
theorem L_glr10_0 (l : Launch) (ad : Nat → Nat) (E : Ev) (σ : Sg) (C : Cx E l (rmk 4) 4 cX7_gatherLeastRows RX7) (X : Rx E ad none (oV (fun τ => IX τ.1 ∧ Fr [49, 50, 51] [(37, 3), (37, 4), (37, 5), (37, 6), (37, 7)] σ τ ∧ True)))  : ∀ (n : Nat) (τ : Sg) (z : Int32), (Fr [49, 50, 51] [(37, 3), (37, 4), (37, 5), (37, 6), (37, 7)] σ τ) → (IX τ.1) → (0 ≤ z.toInt) → (1296 - z.toInt).toNat < n → WP E ad 10 [some (.ref (ad 37)), some (.int z), none, none] [] τ := by
  intro n
  induction n with
  | zero => intro τ z kF hXτ h0 hm9; exact absurd hm9 (Nat.not_lt_zero _)
  | succ n ih =>
    intro τ z kF hXτ h0 hm9
    have hpr := hXτ.pr
    have hsz := hXτ.sz
    refine s_iload_n C dX7_gatherLeastRows_10 rfl ?_
    refine s_aload_n C dX7_gatherLeastRows_11 rfl ?_
    refine s_getr (k := 1) (j := 61) C y37 fw_X7_42 rfl dX7_gatherLeastRows_12 ?_
    refine s_get (k := 2) (x := (τ.1 61 2)) C y61 fw_X7_62 rfl rfl dX7_gatherLeastRows_15 ?_
    refine s_icmp_ge (tgt := 51) C dX7_gatherLeastRows_18 (by decide) (fun q1 => ?_) (fun q1 => ?_)
    · refine s_iconst C dX7_gatherLeastRows_51 (by decide) (fun z2 tz2 => ?_)
      refine s_istore_n C dX7_gatherLeastRows_52 (by decide) (Nat.le_of_ble_eq_true rfl) rfl ?_
      show WP E ad 53 [some (.ref (ad 37)), some (.int z2), none, none] [] τ
      exact L_glr53_0 l ad E σ C X 100 τ z2 (Fr.tr Fr.rf (Fr.mo kF (by decide) (by decide))) hXτ (by omega) (by omega)
    · refine s_aload_n C dX7_gatherLeastRows_21 rfl ?_
      refine s_getr (k := 8) (j := 49) C y37 fw_X7_28 rfl dX7_gatherLeastRows_22 ?_
      refine s_iload_n C dX7_gatherLeastRows_25 rfl ?_
      refine s_iald (r := (τ.1 49 z.toNatClampNeg)) C y49 (by omega) rfl dX7_gatherLeastRows_26 ?_
      refine s_iconst C dX7_gatherLeastRows_27 (by decide) (fun z3 tz3 => ?_)
      refine s_iand C dX7_gatherLeastRows_28 (fun z4 tz4 => ?_)
      refine s_if_eq (tgt := 45) C dX7_gatherLeastRows_29 (by decide) (fun q5 => ?_) (fun q5 => ?_)
      · refine s_iinc C dX7_gatherLeastRows_45 rfl (by decide) rfl (by decide) (by omega) (fun z6 tz6 => ?_)
        show WP E ad 48 [some (.ref (ad 37)), some (.int z6), none, none] [] τ
        refine s_goto (tgt := 10) C dX7_gatherLeastRows_48 (by decide) ?_
        exact ih τ z6 (Fr.tr Fr.rf (Fr.mo kF (by decide) (by decide))) hXτ (by omega) (by omega)
      · refine s_aload_n C dX7_gatherLeastRows_32 rfl ?_
        refine s_aload_n C dX7_gatherLeastRows_33 rfl ?_
        refine s_getr (k := 1) (j := 61) C y37 fw_X7_42 rfl dX7_gatherLeastRows_34 ?_
        refine s_getr (k := 3) (j := 62) C y61 fw_X7_67 rfl dX7_gatherLeastRows_37 ?_
        refine s_iload_n C dX7_gatherLeastRows_40 rfl ?_
        refine s_iald (r := (τ.1 62 z.toNatClampNeg)) C y62 (by omega) rfl dX7_gatherLeastRows_41 ?_
        refine s_callVV (st := []) C (c_X7_gather_0 l ad τ ((τ.1 62 z.toNatClampNeg)) hXτ (hXτ.rw _)) cv_X7_95 y37 rfl rfl rfl ⟨by decide, by decide⟩ (Nat.le_of_ble_eq_true rfl) dX7_gatherLeastRows_42 ?_
        intro τ8 h9
        have hXτ8 := h9.1
        have hRτ8 := h9.2.2
        refine s_iinc C dX7_gatherLeastRows_45 rfl (by decide) rfl (by decide) (by omega) (fun z10 tz10 => ?_)
        show WP E ad 48 [some (.ref (ad 37)), some (.int z10), none, none] [] τ8
        refine s_goto (tgt := 10) C dX7_gatherLeastRows_48 (by decide) ?_
        exact ih τ8 z10 (Fr.tr (Fr.tr Fr.rf (Fr.mo kF (by decide) (by decide))) (Fr.mo h9.2.1 (by decide) (by decide))) hXτ8 (by omega) (by omega)
set_option maxRecDepth 100000 in
theorem c_X7_gatherLeastRows_0 (l : Launch) (ad : Nat → Nat) (σ : Sg)  (hX : IX σ.1)  : Mt l yX7_gatherLeastRows cX7_gatherLeastRows 4 none 4 ad σ [.ref (ad 37)] (oV (fun τ => IX τ.1 ∧ Fr [49, 50, 51] [(37, 3), (37, 4), (37, 5), (37, 6), (37, 7)] σ τ ∧ True)) := by
  have hpr := hX.pr
  have hsz := hX.sz
  refine Mt_intro (by decide +kernel) (by simp [lg_sl, Value.category]) (fun E C X => ?_)
  show WP E ad 0 [some (.ref (ad 37)), none, none, none] [] σ
  refine s_aload_n C dX7_gatherLeastRows_0 rfl ?_
  refine s_getr (k := 9) (j := 50) C y37 fw_X7_32 rfl dX7_gatherLeastRows_1 ?_
  refine s_iconst C dX7_gatherLeastRows_4 (by decide) (fun z1 tz1 => ?_)
  refine s_callSV (st := []) C (c_J7_fill_53178 l ad σ 50 24 0 y50 (by decide) z1) cv_X7_89 rfl rfl ⟨by decide, by decide⟩ (Nat.le_of_ble_eq_true rfl) dX7_gatherLeastRows_5 ?_
  intro τ3 h4
  subst h4
  refine s_iconst C dX7_gatherLeastRows_8 (by decide) (fun z5 tz5 => ?_)
  refine s_istore_n C dX7_gatherLeastRows_9 (by decide) (Nat.le_of_ble_eq_true rfl) rfl ?_
  show WP E ad 10 [some (.ref (ad 37)), some (.int z5), none, none] [] (sR σ 50 (fun _ => z1))
  exact L_glr10_0 l ad E σ  C X 5000 (sR σ 50 (fun _ => z1)) z5 (Fr.sR Fr.rf (by decide)) hX (by omega) (by omega)
set_option maxRecDepth 100000 in
theorem L_join_0 (l : Launch) (ad : Nat → Nat) (E : Ev) (σ : Sg) (hX : IX σ.1) (a : Int32) (hg : GR a) (C : Cx E l (rmk 2) 4 cX7_isJoinOfLeast RX7) (X : Rx E ad (some .boolean) (oI (fun r τ => τ = σ ∧ (r.toInt = 0 ∨ r.toInt = 1))))  : ∀ (n : Nat) (z : Int32), (0 ≤ z.toInt) → (4 - z.toInt).toNat < n → WP E ad 2 [some (.ref (ad 37)), some (.int a), some (.int z), none] [] σ := by
  intro n
  induction n with
  | zero => intro z h0 hm9; exact absurd hm9 (Nat.not_lt_zero _)
  | succ n ih =>
    intro z h0 hm9
    have hpr := hX.pr
    have hsz := hX.sz
    refine s_iload_n C dX7_isJoinOfLeast_2 rfl ?_
    refine s_aload_n C dX7_isJoinOfLeast_3 rfl ?_
    refine s_getr (k := 2) (j := 1) C y37 fw_X7_46 rfl dX7_isJoinOfLeast_4 ?_
    refine s_get (k := 0) (x := (σ.1 1 0)) C y1 fw_X7_80 rfl rfl dX7_isJoinOfLeast_7 ?_
    refine s_icmp_ge (tgt := 57) C dX7_isJoinOfLeast_10 (by decide) (fun q1 => ?_) (fun q1 => ?_)
    · refine s_iconst C dX7_isJoinOfLeast_57 (by decide) (fun z2 tz2 => ?_)
      exact s_zret C (by omega) X dX7_isJoinOfLeast_58 ⟨rfl, by omega⟩
    · refine s_aload_n C dX7_isJoinOfLeast_13 rfl ?_
      refine s_getr (k := 9) (j := 50) C y37 fw_X7_32 rfl dX7_isJoinOfLeast_14 ?_
      refine s_iload_n C dX7_isJoinOfLeast_17 rfl ?_
      refine s_bipush C dX7_isJoinOfLeast_18 (by decide) (fun z3 tz3 => ?_)
      refine s_imulR C tz3 dX7_isJoinOfLeast_20 (by omega) (fun z4 tz4 => ?_)
      refine s_iload_n C dX7_isJoinOfLeast_21 rfl ?_
      refine s_aload_n C dX7_isJoinOfLeast_22 rfl ?_
      refine s_getr (k := 2) (j := 1) C y37 fw_X7_46 rfl dX7_isJoinOfLeast_23 ?_
      refine s_iload_n C dX7_isJoinOfLeast_26 rfl ?_
      refine s_callVI (st := [.int a, .int z4, .ref (ad 50)]) C (c_X5_placeOf l ad σ z (by omega) (by omega)) cv_X7_102 y1 rfl rfl rfl ⟨by decide, by decide⟩ (Nat.le_of_ble_eq_true rfl) dX7_isJoinOfLeast_27 ?_
      intro r5 τ6 h7
      obtain ⟨eh7, h7⟩ := h7; replace eh7 := eh7.symm; subst eh7
      refine s_callSI (st := [.int z4, .ref (ad 50)]) C (c_X4_at l ad σ a r5 ) cv_X7_105 rfl rfl ⟨by decide, by decide⟩ (Nat.le_of_ble_eq_true rfl) dX7_isJoinOfLeast_30 ?_
      intro r8 τ9 h10
      obtain ⟨eh10, h10⟩ := h10; replace eh10 := eh10.symm; subst eh10
      have gh10 : r8.toInt ≤ 5 := by rw [h10.1]; exact GR.at5 hg (by omega)
      refine s_iadd C dX7_isJoinOfLeast_33 (by omega) (fun z11 tz11 => ?_)
      refine s_iald (r := (σ.1 50 z11.toNatClampNeg)) C y50 (by omega) rfl dX7_isJoinOfLeast_34 ?_
      refine s_istore_n C dX7_isJoinOfLeast_35 (by decide) (Nat.le_of_ble_eq_true rfl) rfl ?_
      show WP E ad 36 [some (.ref (ad 37)), some (.int a), some (.int z), some (.int (σ.1 50 z11.toNatClampNeg))] [] σ
      refine s_iload_n C dX7_isJoinOfLeast_36 rfl ?_
      refine s_iconst C dX7_isJoinOfLeast_37 (by decide) (fun z12 tz12 => ?_)
      refine s_icmp_eq (tgt := 49) C dX7_isJoinOfLeast_38 (by decide) (fun q13 => ?_) (fun q13 => ?_)
      · refine s_iconst C dX7_isJoinOfLeast_49 (by decide) (fun z14 tz14 => ?_)
        exact s_zret C (by omega) X dX7_isJoinOfLeast_50 ⟨rfl, by omega⟩
      · refine s_iload_n C dX7_isJoinOfLeast_41 rfl ?_
        refine s_iload_n C dX7_isJoinOfLeast_42 rfl ?_
        refine s_callSI (st := []) C (c_X4_isWithin l ad σ ((σ.1 50 z11.toNatClampNeg)) a ) cv_X7_117 rfl rfl ⟨by decide, by decide⟩ (Nat.le_of_ble_eq_true rfl) dX7_isJoinOfLeast_43 ?_
        intro r15 τ16 h17
        obtain ⟨eh17, h17⟩ := h17; replace eh17 := eh17.symm; subst eh17
        refine s_if_ne (tgt := 51) C dX7_isJoinOfLeast_46 (by decide) (fun q18 => ?_) (fun q18 => ?_)
        · refine s_iinc C dX7_isJoinOfLeast_51 rfl (by decide) rfl (by decide) (by omega) (fun z19 tz19 => ?_)
          show WP E ad 54 [some (.ref (ad 37)), some (.int a), some (.int z19), some (.int (σ.1 50 z11.toNatClampNeg))] [] σ
          refine s_goto (tgt := 2) C dX7_isJoinOfLeast_54 (by decide) ?_
          refine wp_le (lv' := [some (.ref (ad 37)), some (.int a), some (.int z19), none]) ⟨rfl, ⟨rfl, ⟨rfl, trivial⟩⟩⟩ ?_
          exact ih z19 (by omega) (by omega)
        · refine s_iconst C dX7_isJoinOfLeast_49 (by decide) (fun z20 tz20 => ?_)
          exact s_zret C (by omega) X dX7_isJoinOfLeast_50 ⟨rfl, by omega⟩
set_option maxRecDepth 100000 in
theorem c_X7_isJoinOfLeast_0 (l : Launch) (ad : Nat → Nat) (σ : Sg) (a : Int32) (hX : IX σ.1) (hg : GR a) : Mt l yX7_isJoinOfLeast cX7_isJoinOfLeast 4 (some .boolean) 2 ad σ [.ref (ad 37), .int a] (oI (fun r τ => τ = σ ∧ (r.toInt = 0 ∨ r.toInt = 1))) := by
  have hpr := hX.pr
  have hsz := hX.sz
  refine Mt_intro (by decide +kernel) (by simp [lg_sl, Value.category]) (fun E C X => ?_)
  show WP E ad 0 [some (.ref (ad 37)), some (.int a), none, none] [] σ
  refine s_iconst C dX7_isJoinOfLeast_0 (by decide) (fun z1 tz1 => ?_)
  refine s_istore_n C dX7_isJoinOfLeast_1 (by decide) (Nat.le_of_ble_eq_true rfl) rfl ?_
  show WP E ad 2 [some (.ref (ad 37)), some (.int a), some (.int z1), none] [] σ
  exact L_join_0 l ad E σ hX a hg C X 100 z1 (by omega) (by omega)
set_option maxRecDepth 100000 in
theorem L_flagS_0 (l : Launch) (ad : Nat → Nat) (E : Ev) (σ : Sg) (C : Cx E l (rmk 3) 2 cX7_flagSliced RX7) (X : Rx E ad none (oV (fun τ => IX τ.1 ∧ Fr [49, 50, 51] [(37, 3), (37, 4), (37, 5), (37, 6), (37, 7)] σ τ ∧ True)))  : ∀ (n : Nat) (τ : Sg) (z : Int32), (Fr [49, 50, 51] [(37, 3), (37, 4), (37, 5), (37, 6), (37, 7)] σ τ) → (IX τ.1) → (0 ≤ z.toInt) → (1296 - z.toInt).toNat < n → WP E ad 7 [some (.ref (ad 37)), some (.int z)] [] τ := by
  intro n
  induction n with
  | zero => intro τ z kF hXτ h0 hm9; exact absurd hm9 (Nat.not_lt_zero _)
  | succ n ih =>
    intro τ z kF hXτ h0 hm9
    have hpr := hXτ.pr
    have hsz := hXτ.sz
    refine s_iload_n C dX7_flagSliced_7 rfl ?_
    refine s_aload_n C dX7_flagSliced_8 rfl ?_
    refine s_getr (k := 1) (j := 61) C y37 fw_X7_42 rfl dX7_flagSliced_9 ?_
    refine s_get (k := 2) (x := (τ.1 61 2)) C y61 fw_X7_62 rfl rfl dX7_flagSliced_12 ?_
    refine s_icmp_ge (tgt := 60) C dX7_flagSliced_15 (by decide) (fun q1 => ?_) (fun q1 => ?_)
    · exact s_vret C X dX7_flagSliced_60 ⟨hXτ, kF, trivial⟩
    · refine s_aload_n C dX7_flagSliced_18 rfl ?_
      refine s_aload_n C dX7_flagSliced_19 rfl ?_
      refine s_getr (k := 1) (j := 61) C y37 fw_X7_42 rfl dX7_flagSliced_20 ?_
      refine s_getr (k := 3) (j := 62) C y61 fw_X7_67 rfl dX7_flagSliced_23 ?_
      refine s_iload_n C dX7_flagSliced_26 rfl ?_
      refine s_iald (r := (τ.1 62 z.toNatClampNeg)) C y62 (by omega) rfl dX7_flagSliced_27 ?_
      refine s_callVI (st := []) C (c_X7_isJoinOfLeast_0 l ad τ ((τ.1 62 z.toNatClampNeg)) hXτ (hXτ.rw _)) cv_X7_113 y37 rfl rfl rfl ⟨by decide, by decide⟩ (Nat.le_of_ble_eq_true rfl) dX7_flagSliced_28 ?_
      intro r2 τ3 h4
      obtain ⟨eh4, h4⟩ := h4; replace eh4 := eh4.symm; subst eh4
      refine s_if_eq (tgt := 54) C dX7_flagSliced_31 (by decide) (fun q5 => ?_) (fun q5 => ?_)
      · refine s_iinc C dX7_flagSliced_54 rfl (by decide) rfl (by decide) (by omega) (fun z6 tz6 => ?_)
        show WP E ad 57 [some (.ref (ad 37)), some (.int z6)] [] τ
        refine s_goto (tgt := 7) C dX7_flagSliced_57 (by decide) ?_
        exact ih τ z6 (Fr.tr Fr.rf (Fr.mo kF (by decide) (by decide))) hXτ (by omega) (by omega)
      · refine s_aload_n C dX7_flagSliced_34 rfl ?_
        refine s_getr (k := 8) (j := 49) C y37 fw_X7_28 rfl dX7_flagSliced_35 ?_
        refine s_iload_n C dX7_flagSliced_38 rfl ?_
        refine s_dup2 C dX7_flagSliced_39 rfl rfl ?_
        refine s_iald (r := (τ.1 49 z.toNatClampNeg)) C y49 (by omega) rfl dX7_flagSliced_40 ?_
        refine s_iconst C dX7_flagSliced_41 (by decide) (fun z7 tz7 => ?_)
        refine s_ior C dX7_flagSliced_42 (fun z8 tz8 => ?_)
        refine s_iast C y49 (by omega) dX7_flagSliced_43 ?_
        refine s_aload_n C dX7_flagSliced_44 rfl ?_
        refine s_dup C dX7_flagSliced_45 rfl ?_
        refine s_get (k := 7) (x := (τ.1 37 7)) C y37 fw_X7_25 rfl rfl dX7_flagSliced_46 ?_
        refine s_iconst C dX7_flagSliced_49 (by decide) (fun z9 tz9 => ?_)
        refine s_iaddU C dX7_flagSliced_50 (fun z10 tz10 => ?_)
        refine s_put (k := 7) C y37 fw_X7_25 fp_6_7 rfl dX7_flagSliced_51 ?_
        refine s_iinc C dX7_flagSliced_54 rfl (by decide) rfl (by decide) (by omega) (fun z11 tz11 => ?_)
        show WP E ad 57 [some (.ref (ad 37)), some (.int z11)] [] (sV (sV τ 49 z.toNatClampNeg z8) 37 7 z10)
        refine s_goto (tgt := 7) C dX7_flagSliced_57 (by decide) ?_
        exact ih (sV (sV τ 49 z.toNatClampNeg z8) 37 7 z10) z11 (Fr.sV (Fr.sV (Fr.tr Fr.rf (Fr.mo kF (by decide) (by decide))) (Or.inl (by decide))) (Or.inr (by decide))) hXτ (by omega) (by omega)
set_option maxRecDepth 100000 in
theorem c_X7_flagSliced_0 (l : Launch) (ad : Nat → Nat) (σ : Sg)  (hX : IX σ.1)  : Mt l yX7_flagSliced cX7_flagSliced 2 none 3 ad σ [.ref (ad 37)] (oV (fun τ => IX τ.1 ∧ Fr [49, 50, 51] [(37, 3), (37, 4), (37, 5), (37, 6), (37, 7)] σ τ ∧ True)) := by
  have hpr := hX.pr
  have hsz := hX.sz
  refine Mt_intro (by decide +kernel) (by simp [lg_sl, Value.category]) (fun E C X => ?_)
  show WP E ad 0 [some (.ref (ad 37)), none] [] σ
  refine s_aload_n C dX7_flagSliced_0 rfl ?_
  refine s_iconst C dX7_flagSliced_1 (by decide) (fun z1 tz1 => ?_)
  refine s_put (k := 7) C y37 fw_X7_25 fp_6_7 rfl dX7_flagSliced_2 ?_
  refine s_iconst C dX7_flagSliced_5 (by decide) (fun z2 tz2 => ?_)
  refine s_istore_n C dX7_flagSliced_6 (by decide) (Nat.le_of_ble_eq_true rfl) rfl ?_
  show WP E ad 7 [some (.ref (ad 37)), some (.int z2)] [] (sV σ 37 7 z1)
  exact L_flagS_0 l ad E σ  C X 5000 (sV σ 37 7 z1) z2 (Fr.sV Fr.rf (Or.inr (by decide))) hX (by omega) (by omega)
set_option maxRecDepth 100000 in
theorem c_X7_needPassable_0 (l : Launch) (ad : Nat → Nat) (σ : Sg)  (hX : IX σ.1)  : Mt l yX7_needPassable cX7_needPassable 1 none 4 ad σ [.ref (ad 37)] (oV (fun τ => IX τ.1 ∧ Fr [49, 50, 51] [(37, 3), (37, 4), (37, 5), (37, 6), (37, 7)] σ τ ∧ True)) := by
  have hpr := hX.pr
  have hsz := hX.sz
  refine Mt_intro (by decide +kernel) (by simp [lg_sl, Value.category]) (fun E C X => ?_)
  show WP E ad 0 [some (.ref (ad 37))] [] σ
  refine s_aload_n C dX7_needPassable_0 rfl ?_
  refine s_get (k := 4) (x := (σ.1 37 4)) C y37 fw_X7_15 rfl rfl dX7_needPassable_1 ?_
  refine s_if_ne (tgt := 16) C dX7_needPassable_4 (by decide) (fun q1 => ?_) (fun q1 => ?_)
  · exact s_vret C X dX7_needPassable_16 ⟨hX, Fr.rf, trivial⟩
  · refine s_aload_n C dX7_needPassable_7 rfl ?_
    refine s_iconst C dX7_needPassable_8 (by decide) (fun z2 tz2 => ?_)
    refine s_putz (k := 4) C y37 fw_X7_15 fp_6_4 rfl (by omega) dX7_needPassable_9 ?_
    refine s_aload_n C dX7_needPassable_12 rfl ?_
    refine s_callVV (st := []) C (c_X7_flagPassable_0 l ad (sV σ 37 4 z2)  hX ) cv_X7_53 y37 rfl rfl rfl ⟨by decide, by decide⟩ (Nat.le_of_ble_eq_true rfl) dX7_needPassable_13 ?_
    intro τ4 h5
    have hXτ4 := h5.1
    have hRτ4 := h5.2.2
    have prτ4 := hXτ4.pr
    have szτ4 := hXτ4.sz
    exact s_vret C X dX7_needPassable_16 ⟨hXτ4, (Fr.tr (Fr.sV Fr.rf (Or.inr (by decide))) (Fr.mo h5.2.1 (by decide) (by decide))), trivial⟩
set_option maxRecDepth 100000 in
theorem c_X7_needSlice_0 (l : Launch) (ad : Nat → Nat) (σ : Sg)  (hX : IX σ.1)  : Mt l yX7_needSlice cX7_needSlice 1 none 5 ad σ [.ref (ad 37)] (oV (fun τ => IX τ.1 ∧ Fr [49, 50, 51] [(37, 3), (37, 4), (37, 5), (37, 6), (37, 7)] σ τ ∧ True)) := by
  have hpr := hX.pr
  have hsz := hX.sz
  refine Mt_intro (by decide +kernel) (by simp [lg_sl, Value.category]) (fun E C X => ?_)
  show WP E ad 0 [some (.ref (ad 37))] [] σ
  refine s_aload_n C dX7_needSlice_0 rfl ?_
  refine s_get (k := 5) (x := (σ.1 37 5)) C y37 fw_X7_18 rfl rfl dX7_needSlice_1 ?_
  refine s_if_ne (tgt := 20) C dX7_needSlice_4 (by decide) (fun q1 => ?_) (fun q1 => ?_)
  · exact s_vret C X dX7_needSlice_20 ⟨hX, Fr.rf, trivial⟩
  · refine s_aload_n C dX7_needSlice_7 rfl ?_
    refine s_iconst C dX7_needSlice_8 (by decide) (fun z2 tz2 => ?_)
    refine s_putz (k := 5) C y37 fw_X7_18 fp_6_5 rfl (by omega) dX7_needSlice_9 ?_
    refine s_aload_n C dX7_needSlice_12 rfl ?_
    refine s_callVV (st := []) C (c_X7_gatherLeastRows_0 l ad (sV σ 37 5 z2)  hX ) cv_X7_56 y37 rfl rfl rfl ⟨by decide, by decide⟩ (Nat.le_of_ble_eq_true rfl) dX7_needSlice_13 ?_
    intro τ4 h5
    have hXτ4 := h5.1
    have hRτ4 := h5.2.2
    have prτ4 := hXτ4.pr
    have szτ4 := hXτ4.sz
    refine s_aload_n C dX7_needSlice_16 rfl ?_
    refine s_callVV (st := []) C (c_X7_flagSliced_0 l ad τ4  hXτ4 ) cv_X7_59 y37 rfl rfl rfl ⟨by decide, by decide⟩ (Nat.le_of_ble_eq_true rfl) dX7_needSlice_17 ?_
    intro τ7 h8
    have hXτ7 := h8.1
    have hRτ7 := h8.2.2
    have prτ7 := hXτ7.pr
    have szτ7 := hXτ7.sz
    exact s_vret C X dX7_needSlice_20 ⟨hXτ7, (Fr.tr (Fr.tr (Fr.sV Fr.rf (Or.inr (by decide))) (Fr.mo h5.2.1 (by decide) (by decide))) (Fr.mo h8.2.1 (by decide) (by decide))), trivial⟩
set_option maxRecDepth 100000 in
theorem c_X7_refresh_0 (l : Launch) (ad : Nat → Nat) (σ : Sg)  (hX : IX σ.1)  : Mt l yX7_refresh cX7_refresh 1 none 5 ad σ [.ref (ad 37)] (oV (fun τ => IX τ.1 ∧ Fr [49, 50, 51] [(37, 3), (37, 4), (37, 5), (37, 6), (37, 7)] σ τ ∧ True)) := by
  have hpr := hX.pr
  have hsz := hX.sz
  refine Mt_intro (by decide +kernel) (by simp [lg_sl, Value.category]) (fun E C X => ?_)
  show WP E ad 0 [some (.ref (ad 37))] [] σ
  refine s_aload_n C dX7_refresh_0 rfl ?_
  refine s_get (k := 3) (x := (σ.1 37 3)) C y37 fw_X7_9 rfl rfl dX7_refresh_1 ?_
  refine s_if_ne (tgt := 8) C dX7_refresh_4 (by decide) (fun q1 => ?_) (fun q1 => ?_)
  · refine s_aload_n C dX7_refresh_8 rfl ?_
    refine s_iconst C dX7_refresh_9 (by decide) (fun z2 tz2 => ?_)
    refine s_putz (k := 3) C y37 fw_X7_9 fp_6_3 rfl (by omega) dX7_refresh_10 ?_
    refine s_aload_n C dX7_refresh_13 rfl ?_
    refine s_iconst C dX7_refresh_14 (by decide) (fun z3 tz3 => ?_)
    refine s_putz (k := 4) C y37 fw_X7_15 fp_6_4 rfl (by omega) dX7_refresh_15 ?_
    refine s_aload_n C dX7_refresh_18 rfl ?_
    refine s_iconst C dX7_refresh_19 (by decide) (fun z4 tz4 => ?_)
    refine s_putz (k := 5) C y37 fw_X7_18 fp_6_5 rfl (by omega) dX7_refresh_20 ?_
    refine s_aload_n C dX7_refresh_23 rfl ?_
    refine s_callVV (st := []) C (c_X7_flagMet_0 l ad (sV (sV (sV σ 37 3 z2) 37 4 z3) 37 5 z4)  hX ) cv_X7_50 y37 rfl rfl rfl ⟨by decide, by decide⟩ (Nat.le_of_ble_eq_true rfl) dX7_refresh_24 ?_
    intro τ6 h7
    have hXτ6 := h7.1
    have hRτ6 := h7.2.2
    have prτ6 := hXτ6.pr
    have szτ6 := hXτ6.sz
    exact s_vret C X dX7_refresh_27 ⟨hXτ6, (Fr.tr (Fr.sV (Fr.sV (Fr.sV Fr.rf (Or.inr (by decide))) (Or.inr (by decide))) (Or.inr (by decide))) (Fr.mo h7.2.1 (by decide) (by decide))), trivial⟩
  · exact s_vret C X dX7_refresh_7 ⟨hX, Fr.rf, trivial⟩
set_option maxRecDepth 100000 in
theorem c_X7_meetsAt_0 (l : Launch) (ad : Nat → Nat) (σ : Sg) (i : Int32) (hX : IX σ.1) (hi : 0 ≤ i.toInt ∧ i.toInt ≤ 1295) : Mt l yX7_meetsAt cX7_meetsAt 2 (some .int) 0 ad σ [.ref (ad 37), .int i] (oI (fun r τ => τ = σ ∧ True)) := by
  have hpr := hX.pr
  have hsz := hX.sz
  refine Mt_intro (by decide +kernel) (by simp [lg_sl, Value.category]) (fun E C X => ?_)
  show WP E ad 0 [some (.ref (ad 37)), some (.int i)] [] σ
  refine s_aload_n C dX7_meetsAt_0 rfl ?_
  refine s_getr (k := 8) (j := 49) C y37 fw_X7_28 rfl dX7_meetsAt_1 ?_
  refine s_iload_n C dX7_meetsAt_4 rfl ?_
  refine s_iald (r := (σ.1 49 i.toNatClampNeg)) C y49 (by omega) rfl dX7_meetsAt_5 ?_
  refine s_iconst C dX7_meetsAt_6 (by decide) (fun z1 tz1 => ?_)
  refine s_iand C dX7_meetsAt_7 (fun z2 tz2 => ?_)
  exact s_iret C X dX7_meetsAt_8 ⟨rfl, trivial⟩
set_option maxRecDepth 100000 in
theorem L_flagged_0 (l : Launch) (ad : Nat → Nat) (E : Ev) (σ : Sg) (hX : IX σ.1) (f b : Int32) (C : Cx E l (rmk 0) 5 cX7_flaggedAt RX7) (X : Rx E ad (some .int) (oI (fun r τ => τ = σ ∧ True)))  : ∀ (n : Nat) (a : Int32) (z : Int32), (0 ≤ a.toInt) → (0 ≤ z.toInt) → (1296 - z.toInt).toNat < n → WP E ad 5 [some (.ref (ad 37)), some (.int f), some (.int b), some (.int a), some (.int z)] [] σ := by
  intro n
  induction n with
  | zero => intro a z ha h0 hm9; exact absurd hm9 (Nat.not_lt_zero _)
  | succ n ih =>
    intro a z ha h0 hm9
    have hpr := hX.pr
    have hsz := hX.sz
    have hau := a.toInt_lt
    refine s_iload C dX7_flaggedAt_5 rfl ?_
    refine s_aload_n C dX7_flaggedAt_7 rfl ?_
    refine s_getr (k := 1) (j := 61) C y37 fw_X7_42 rfl dX7_flaggedAt_8 ?_
    refine s_get (k := 2) (x := (σ.1 61 2)) C y61 fw_X7_62 rfl rfl dX7_flaggedAt_11 ?_
    refine s_icmp_ge (tgt := 45) C dX7_flaggedAt_14 (by decide) (fun q1 => ?_) (fun q1 => ?_)
    · refine s_bipush C dX7_flaggedAt_45 (by decide) (fun z2 tz2 => ?_)
      exact s_iret C X dX7_flaggedAt_47 ⟨rfl, trivial⟩
    · refine s_aload_n C dX7_flaggedAt_17 rfl ?_
      refine s_getr (k := 8) (j := 49) C y37 fw_X7_28 rfl dX7_flaggedAt_18 ?_
      refine s_iload C dX7_flaggedAt_21 rfl ?_
      refine s_iald (r := (σ.1 49 z.toNatClampNeg)) C y49 (by omega) rfl dX7_flaggedAt_23 ?_
      refine s_iload_n C dX7_flaggedAt_24 rfl ?_
      refine s_iand C dX7_flaggedAt_25 (fun z3 tz3 => ?_)
      refine s_if_eq (tgt := 39) C dX7_flaggedAt_26 (by decide) (fun q4 => ?_) (fun q4 => ?_)
      · refine s_iinc C dX7_flaggedAt_39 rfl (by decide) rfl (by decide) (by omega) (fun z5 tz5 => ?_)
        show WP E ad 42 [some (.ref (ad 37)), some (.int f), some (.int b), some (.int a), some (.int z5)] [] σ
        refine s_goto (tgt := 5) C dX7_flaggedAt_42 (by decide) ?_
        exact ih a z5 (by omega) (by omega) (by omega)
      · refine s_iload_n C dX7_flaggedAt_29 rfl ?_
        refine s_if_ne (tgt := 36) C dX7_flaggedAt_30 (by decide) (fun q6 => ?_) (fun q6 => ?_)
        · refine s_iinc C dX7_flaggedAt_36 rfl (by decide) rfl (by decide) (by omega) (fun z7 tz7 => ?_)
          show WP E ad 39 [some (.ref (ad 37)), some (.int f), some (.int b), some (.int z7), some (.int z)] [] σ
          refine s_iinc C dX7_flaggedAt_39 rfl (by decide) rfl (by decide) (by omega) (fun z8 tz8 => ?_)
          show WP E ad 42 [some (.ref (ad 37)), some (.int f), some (.int b), some (.int z7), some (.int z8)] [] σ
          refine s_goto (tgt := 5) C dX7_flaggedAt_42 (by decide) ?_
          exact ih z7 z8 (by omega) (by omega) (by omega)
        · refine s_iload C dX7_flaggedAt_33 rfl ?_
          exact s_iret C X dX7_flaggedAt_35 ⟨rfl, trivial⟩
set_option maxRecDepth 100000 in
theorem c_X7_flaggedAt_0 (l : Launch) (ad : Nat → Nat) (σ : Sg) (f : Int32) (b : Int32) (hX : IX σ.1) (hb : 0 ≤ b.toInt) : Mt l yX7_flaggedAt cX7_flaggedAt 5 (some .int) 0 ad σ [.ref (ad 37), .int f, .int b] (oI (fun r τ => τ = σ ∧ True)) := by
  have hpr := hX.pr
  have hsz := hX.sz
  refine Mt_intro (by decide +kernel) (by simp [lg_sl, Value.category]) (fun E C X => ?_)
  show WP E ad 0 [some (.ref (ad 37)), some (.int f), some (.int b), none, none] [] σ
  refine s_iload_n C dX7_flaggedAt_0 rfl ?_
  refine s_istore_n C dX7_flaggedAt_1 (by decide) (Nat.le_of_ble_eq_true rfl) rfl ?_
  show WP E ad 2 [some (.ref (ad 37)), some (.int f), some (.int b), some (.int b), none] [] σ
  refine s_iconst C dX7_flaggedAt_2 (by decide) (fun z1 tz1 => ?_)
  refine s_istore C dX7_flaggedAt_3 (by decide) (Nat.le_of_ble_eq_true rfl) rfl ?_
  show WP E ad 5 [some (.ref (ad 37)), some (.int f), some (.int b), some (.int b), some (.int z1)] [] σ
  exact L_flagged_0 l ad E σ hX f b C X 5000 b z1 (by omega) (by omega) (by omega)
set_option maxRecDepth 100000 in
theorem c_X7_pickMet_0 (l : Launch) (ad : Nat → Nat) (σ : Sg) (b : Int32) (hX : IX σ.1) (hb : -1 ≤ b.toInt) : Mt l yX7_pickMet cX7_pickMet 2 (some .int) 1 ad σ [.ref (ad 37), .int b] (oI (fun r τ => τ = σ ∧ True)) := by
  have hpr := hX.pr
  have hsz := hX.sz
  refine Mt_intro (by decide +kernel) (by simp [lg_sl, Value.category]) (fun E C X => ?_)
  show WP E ad 0 [some (.ref (ad 37)), some (.int b)] [] σ
  refine s_iload_n C dX7_pickMet_0 rfl ?_
  refine s_iconst C dX7_pickMet_1 (by decide) (fun z1 tz1 => ?_)
  refine s_icmp_ne (tgt := 12) C dX7_pickMet_2 (by decide) (fun q2 => ?_) (fun q2 => ?_)
  · refine s_aload_n C dX7_pickMet_12 rfl ?_
    refine s_iconst C dX7_pickMet_13 (by decide) (fun z3 tz3 => ?_)
    refine s_iload_n C dX7_pickMet_14 rfl ?_
    refine s_callVI (st := []) C (c_X7_flaggedAt_0 l ad σ z3 b hX (by omega)) cv_X7_121 y37 rfl rfl rfl ⟨by decide, by decide⟩ (Nat.le_of_ble_eq_true rfl) dX7_pickMet_15 ?_
    intro r4 τ5 h6
    obtain ⟨eh6, h6⟩ := h6; replace eh6 := eh6.symm; subst eh6
    exact s_iret C X dX7_pickMet_18 ⟨rfl, trivial⟩
  · refine s_aload_n C dX7_pickMet_5 rfl ?_
    refine s_get (k := 6) (x := (σ.1 37 6)) C y37 fw_X7_21 rfl rfl dX7_pickMet_6 ?_
    refine s_goto (tgt := 18) C dX7_pickMet_9 (by decide) ?_
    exact s_iret C X dX7_pickMet_18 ⟨rfl, trivial⟩
set_option maxRecDepth 100000 in
theorem c_X7_pickSliced_0 (l : Launch) (ad : Nat → Nat) (σ : Sg) (b : Int32) (hX : IX σ.1) (hb : -1 ≤ b.toInt) : Mt l yX7_pickSliced cX7_pickSliced 2 (some .int) 6 ad σ [.ref (ad 37), .int b] (oI (fun r τ => IX τ.1 ∧ Fr [49, 50, 51] [(37, 3), (37, 4), (37, 5), (37, 6), (37, 7)] σ τ ∧ True)) := by
  have hpr := hX.pr
  have hsz := hX.sz
  refine Mt_intro (by decide +kernel) (by simp [lg_sl, Value.category]) (fun E C X => ?_)
  show WP E ad 0 [some (.ref (ad 37)), some (.int b)] [] σ
  refine s_aload_n C dX7_pickSliced_0 rfl ?_
  refine s_callVV (st := []) C (c_X7_needSlice_0 l ad σ  hX ) cv_X7_124 y37 rfl rfl rfl ⟨by decide, by decide⟩ (Nat.le_of_ble_eq_true rfl) dX7_pickSliced_1 ?_
  intro τ2 h3
  have hXτ2 := h3.1
  have hRτ2 := h3.2.2
  have prτ2 := hXτ2.pr
  have szτ2 := hXτ2.sz
  refine s_iload_n C dX7_pickSliced_4 rfl ?_
  refine s_iconst C dX7_pickSliced_5 (by decide) (fun z4 tz4 => ?_)
  refine s_icmp_ne (tgt := 16) C dX7_pickSliced_6 (by decide) (fun q5 => ?_) (fun q5 => ?_)
  · refine s_aload_n C dX7_pickSliced_16 rfl ?_
    refine s_iconst C dX7_pickSliced_17 (by decide) (fun z6 tz6 => ?_)
    refine s_iload_n C dX7_pickSliced_18 rfl ?_
    refine s_callVI (st := []) C (c_X7_flaggedAt_0 l ad τ2 z6 b hXτ2 (by omega)) cv_X7_121 y37 rfl rfl rfl ⟨by decide, by decide⟩ (Nat.le_of_ble_eq_true rfl) dX7_pickSliced_19 ?_
    intro r7 τ8 h9
    obtain ⟨eh9, h9⟩ := h9; replace eh9 := eh9.symm; subst eh9
    exact s_iret C X dX7_pickSliced_22 ⟨hXτ2, (Fr.tr Fr.rf (Fr.mo h3.2.1 (by decide) (by decide))), trivial⟩
  · refine s_aload_n C dX7_pickSliced_9 rfl ?_
    refine s_get (k := 7) (x := (τ2.1 37 7)) C y37 fw_X7_25 rfl rfl dX7_pickSliced_10 ?_
    refine s_goto (tgt := 22) C dX7_pickSliced_13 (by decide) ?_
    exact s_iret C X dX7_pickSliced_22 ⟨hXτ2, (Fr.tr Fr.rf (Fr.mo h3.2.1 (by decide) (by decide))), trivial⟩
set_option maxRecDepth 100000 in
theorem c_X7_isExact_0 (l : Launch) (ad : Nat → Nat) (σ : Sg)  (hX : IX σ.1)  : Mt l yX7_isExact cX7_isExact 1 (some .boolean) 6 ad σ [.ref (ad 37)] (oI (fun r τ => IX τ.1 ∧ Fr [49, 50, 51] [(37, 3), (37, 4), (37, 5), (37, 6), (37, 7)] σ τ ∧ (r.toInt = 0 ∨ r.toInt = 1))) := by
  have hpr := hX.pr
  have hsz := hX.sz
  refine Mt_intro (by decide +kernel) (by simp [lg_sl, Value.category]) (fun E C X => ?_)
  show WP E ad 0 [some (.ref (ad 37))] [] σ
  refine s_aload_n C dX7_isExact_0 rfl ?_
  refine s_callVV (st := []) C (c_X7_needSlice_0 l ad σ  hX ) cv_X7_124 y37 rfl rfl rfl ⟨by decide, by decide⟩ (Nat.le_of_ble_eq_true rfl) dX7_isExact_1 ?_
  intro τ2 h3
  have hXτ2 := h3.1
  have hRτ2 := h3.2.2
  have prτ2 := hXτ2.pr
  have szτ2 := hXτ2.sz
  refine s_aload_n C dX7_isExact_4 rfl ?_
  refine s_get (k := 6) (x := (τ2.1 37 6)) C y37 fw_X7_21 rfl rfl dX7_isExact_5 ?_
  refine s_aload_n C dX7_isExact_8 rfl ?_
  refine s_get (k := 7) (x := (τ2.1 37 7)) C y37 fw_X7_25 rfl rfl dX7_isExact_9 ?_
  refine s_icmp_ne (tgt := 19) C dX7_isExact_12 (by decide) (fun q4 => ?_) (fun q4 => ?_)
  · refine s_iconst C dX7_isExact_19 (by decide) (fun z5 tz5 => ?_)
    exact s_zret C (by omega) X dX7_isExact_20 ⟨hXτ2, (Fr.tr Fr.rf (Fr.mo h3.2.1 (by decide) (by decide))), by omega⟩
  · refine s_iconst C dX7_isExact_15 (by decide) (fun z6 tz6 => ?_)
    refine s_goto (tgt := 20) C dX7_isExact_16 (by decide) ?_
    exact s_zret C (by omega) X dX7_isExact_20 ⟨hXτ2, (Fr.tr Fr.rf (Fr.mo h3.2.1 (by decide) (by decide))), by omega⟩
set_option maxRecDepth 100000 in
theorem c_X7_hasWayRound_0 (l : Launch) (ad : Nat → Nat) (σ : Sg)  (hX : IX σ.1)  : Mt l yX7_hasWayRound cX7_hasWayRound 1 (some .boolean) 5 ad σ [.ref (ad 37)] (oI (fun r τ => IX τ.1 ∧ Fr [49, 50, 51] [(37, 3), (37, 4), (37, 5), (37, 6), (37, 7)] σ τ ∧ (r.toInt = 0 ∨ r.toInt = 1))) := by
  have hpr := hX.pr
  have hsz := hX.sz
  refine Mt_intro (by decide +kernel) (by simp [lg_sl, Value.category]) (fun E C X => ?_)
  show WP E ad 0 [some (.ref (ad 37))] [] σ
  refine s_aload_n C dX7_hasWayRound_0 rfl ?_
  refine s_callVV (st := []) C (c_X7_needPassable_0 l ad σ  hX ) cv_X7_127 y37 rfl rfl rfl ⟨by decide, by decide⟩ (Nat.le_of_ble_eq_true rfl) dX7_hasWayRound_1 ?_
  intro τ2 h3
  have hXτ2 := h3.1
  have hRτ2 := h3.2.2
  have prτ2 := hXτ2.pr
  have szτ2 := hXτ2.sz
  refine s_aload_n C dX7_hasWayRound_4 rfl ?_
  refine s_getr (k := 8) (j := 49) C y37 fw_X7_28 rfl dX7_hasWayRound_5 ?_
  refine s_iconst C dX7_hasWayRound_8 (by decide) (fun z4 tz4 => ?_)
  refine s_iald (r := (τ2.1 49 z4.toNatClampNeg)) C y49 (by omega) rfl dX7_hasWayRound_9 ?_
  refine s_iconst C dX7_hasWayRound_10 (by decide) (fun z5 tz5 => ?_)
  refine s_iand C dX7_hasWayRound_11 (fun z6 tz6 => ?_)
  refine s_if_eq (tgt := 19) C dX7_hasWayRound_12 (by decide) (fun q7 => ?_) (fun q7 => ?_)
  · refine s_iconst C dX7_hasWayRound_19 (by decide) (fun z8 tz8 => ?_)
    exact s_zret C (by omega) X dX7_hasWayRound_20 ⟨hXτ2, (Fr.tr Fr.rf (Fr.mo h3.2.1 (by decide) (by decide))), by omega⟩
  · refine s_iconst C dX7_hasWayRound_15 (by decide) (fun z9 tz9 => ?_)
    refine s_goto (tgt := 20) C dX7_hasWayRound_16 (by decide) ?_
    exact s_zret C (by omega) X dX7_hasWayRound_20 ⟨hXτ2, (Fr.tr Fr.rf (Fr.mo h3.2.1 (by decide) (by decide))), by omega⟩
set_option maxRecDepth 100000 in
theorem L_stepR_0 (l : Launch) (ad : Nat → Nat) (E : Ev) (σ τ : Sg) (kF : Fr [49, 50, 51] [(37, 3), (37, 4), (37, 5), (37, 6), (37, 7)] σ τ) (hXτ : IX τ.1) (b : Int32) (hb : b.toInt ≤ 20) (C : Cx E l (rmk 6) 5 cX7_stepRound RX7) (X : Rx E ad (some .int) (oI (fun r τ => IX τ.1 ∧ Fr [49, 50, 51] [(37, 3), (37, 4), (37, 5), (37, 6), (37, 7)] σ τ ∧ True)))  : ∀ (n : Nat) (i : Int32) (p : Int32) (z : Int32), (-1 ≤ i.toInt ∧ i.toInt ≤ 1295) → (0 ≤ z.toInt) → (21 - z.toInt).toNat < n → WP E ad 42 [some (.ref (ad 37)), some (.int b), some (.int i), some (.int p), some (.int z)] [] τ := by
  intro n
  induction n with
  | zero => intro i p z hi h0 hm9; exact absurd hm9 (Nat.not_lt_zero _)
  | succ n ih =>
    intro i p z hi h0 hm9
    have hpr := hXτ.pr
    have hsz := hXτ.sz
    refine s_iload C dX7_stepRound_42 rfl ?_
    refine s_iload_n C dX7_stepRound_44 rfl ?_
    refine s_icmp_gt (tgt := 82) C dX7_stepRound_45 (by decide) (fun q1 => ?_) (fun q1 => ?_)
    · refine s_iload_n C dX7_stepRound_82 rfl ?_
      exact s_iret C X dX7_stepRound_83 ⟨hXτ, kF, trivial⟩
    · refine s_iload_n C dX7_stepRound_48 rfl ?_
      refine s_if_lt (tgt := 82) C dX7_stepRound_49 (by decide) (fun q2 => ?_) (fun q2 => ?_)
      · refine s_iload_n C dX7_stepRound_82 rfl ?_
        exact s_iret C X dX7_stepRound_83 ⟨hXτ, kF, trivial⟩
      · refine s_aload_n C dX7_stepRound_52 rfl ?_
        refine s_iload_n C dX7_stepRound_53 rfl ?_
        refine s_callVI (st := []) C (c_X7_passableStep_0 l ad τ i hXτ (by omega)) cv_X7_76 y37 rfl rfl rfl ⟨by decide, by decide⟩ (Nat.le_of_ble_eq_true rfl) dX7_stepRound_54 ?_
        intro r3 τ4 h5
        obtain ⟨eh5, h5⟩ := h5; replace eh5 := eh5.symm; subst eh5
        refine s_istore_n C dX7_stepRound_57 (by decide) (Nat.le_of_ble_eq_true rfl) rfl ?_
        show WP E ad 58 [some (.ref (ad 37)), some (.int b), some (.int i), some (.int r3), some (.int z)] [] τ
        refine s_iload_n C dX7_stepRound_58 rfl ?_
        refine s_if_lt (tgt := 74) C dX7_stepRound_59 (by decide) (fun q6 => ?_) (fun q6 => ?_)
        · refine s_iconst C dX7_stepRound_74 (by decide) (fun z7 tz7 => ?_)
          refine s_istore_n C dX7_stepRound_75 (by decide) (Nat.le_of_ble_eq_true rfl) rfl ?_
          show WP E ad 76 [some (.ref (ad 37)), some (.int b), some (.int z7), some (.int r3), some (.int z)] [] τ
          refine s_iinc C dX7_stepRound_76 rfl (by decide) rfl (by decide) (by omega) (fun z8 tz8 => ?_)
          show WP E ad 79 [some (.ref (ad 37)), some (.int b), some (.int z7), some (.int r3), some (.int z8)] [] τ
          refine s_goto (tgt := 42) C dX7_stepRound_79 (by decide) ?_
          exact ih z7 r3 z8 (by omega) (by omega) (by omega)
        · refine s_aload_n C dX7_stepRound_62 rfl ?_
          refine s_getr (k := 1) (j := 61) C y37 fw_X7_42 rfl dX7_stepRound_63 ?_
          refine s_iload_n C dX7_stepRound_66 rfl ?_
          refine s_iload_n C dX7_stepRound_67 rfl ?_
          refine s_callVI (st := []) C (c_X2_successor l ad τ i r3 hXτ (by omega) (by omega)) cv_X7_85 y61 rfl rfl rfl ⟨by decide, by decide⟩ (Nat.le_of_ble_eq_true rfl) dX7_stepRound_68 ?_
          intro r9 τ10 h11
          obtain ⟨eh11, h11⟩ := h11; replace eh11 := eh11.symm; subst eh11
          refine s_goto (tgt := 75) C dX7_stepRound_71 (by decide) ?_
          refine s_istore_n C dX7_stepRound_75 (by decide) (Nat.le_of_ble_eq_true rfl) rfl ?_
          show WP E ad 76 [some (.ref (ad 37)), some (.int b), some (.int r9), some (.int r3), some (.int z)] [] τ
          refine s_iinc C dX7_stepRound_76 rfl (by decide) rfl (by decide) (by omega) (fun z12 tz12 => ?_)
          show WP E ad 79 [some (.ref (ad 37)), some (.int b), some (.int r9), some (.int r3), some (.int z12)] [] τ
          refine s_goto (tgt := 42) C dX7_stepRound_79 (by decide) ?_
          exact ih r9 r3 z12 (by omega) (by omega) (by omega)
set_option maxRecDepth 100000 in
theorem c_X7_stepRound_0 (l : Launch) (ad : Nat → Nat) (σ : Sg) (b : Int32) (hX : IX σ.1) (hb : -1 ≤ b.toInt) : Mt l yX7_stepRound cX7_stepRound 5 (some .int) 6 ad σ [.ref (ad 37), .int b] (oI (fun r τ => IX τ.1 ∧ Fr [49, 50, 51] [(37, 3), (37, 4), (37, 5), (37, 6), (37, 7)] σ τ ∧ True)) := by
  have hpr := hX.pr
  have hsz := hX.sz
  refine Mt_intro (by decide +kernel) (by simp [lg_sl, Value.category]) (fun E C X => ?_)
  show WP E ad 0 [some (.ref (ad 37)), some (.int b), none, none, none] [] σ
  refine s_aload_n C dX7_stepRound_0 rfl ?_
  refine s_callVI (st := []) C (c_X7_hasWayRound_0 l ad σ  hX ) cv_X7_130 y37 rfl rfl rfl ⟨by decide, by decide⟩ (Nat.le_of_ble_eq_true rfl) dX7_stepRound_1 ?_
  intro r1 τ2 h3
  have hXτ2 := h3.1
  have hRτ2 := h3.2.2
  have prτ2 := hXτ2.pr
  have totτ2 := hXτ2.tot
  refine s_if_eq (tgt := 18) C dX7_stepRound_4 (by decide) (fun q4 => ?_) (fun q4 => ?_)
  · refine s_bipush C dX7_stepRound_18 (by decide) (fun z5 tz5 => ?_)
    exact s_iret C X dX7_stepRound_20 ⟨hXτ2, (Fr.tr Fr.rf (Fr.mo h3.2.1 (by decide) (by decide))), trivial⟩
  · refine s_iload_n C dX7_stepRound_7 rfl ?_
    refine s_aload_n C dX7_stepRound_8 rfl ?_
    refine s_getr (k := 2) (j := 1) C y37 fw_X7_46 rfl dX7_stepRound_9 ?_
    refine s_get (k := 1) (x := (τ2.1 1 1)) C y1 fw_X7_134 rfl rfl dX7_stepRound_12 ?_
    refine s_icmp_lt (tgt := 21) C dX7_stepRound_15 (by decide) (fun q6 => ?_) (fun q6 => ?_)
    · refine s_iload_n C dX7_stepRound_21 rfl ?_
      refine s_iconst C dX7_stepRound_22 (by decide) (fun z7 tz7 => ?_)
      refine s_icmp_ne (tgt := 34) C dX7_stepRound_23 (by decide) (fun q8 => ?_) (fun q8 => ?_)
      · refine s_iconst C dX7_stepRound_34 (by decide) (fun z9 tz9 => ?_)
        refine s_istore_n C dX7_stepRound_35 (by decide) (Nat.le_of_ble_eq_true rfl) rfl ?_
        show WP E ad 36 [some (.ref (ad 37)), some (.int b), some (.int z9), none, none] [] τ2
        refine s_bipush C dX7_stepRound_36 (by decide) (fun z10 tz10 => ?_)
        refine s_istore_n C dX7_stepRound_38 (by decide) (Nat.le_of_ble_eq_true rfl) rfl ?_
        show WP E ad 39 [some (.ref (ad 37)), some (.int b), some (.int z9), some (.int z10), none] [] τ2
        refine s_iconst C dX7_stepRound_39 (by decide) (fun z11 tz11 => ?_)
        refine s_istore C dX7_stepRound_40 (by decide) (Nat.le_of_ble_eq_true rfl) rfl ?_
        show WP E ad 42 [some (.ref (ad 37)), some (.int b), some (.int z9), some (.int z10), some (.int z11)] [] τ2
        exact L_stepR_0 l ad E σ τ2 (Fr.tr Fr.rf (Fr.mo h3.2.1 (by decide) (by decide))) hXτ2 b (by omega) C X 100 z9 z10 z11 (by omega) (by omega) (by omega)
      · refine s_aload_n C dX7_stepRound_26 rfl ?_
        refine s_getr (k := 2) (j := 1) C y37 fw_X7_46 rfl dX7_stepRound_27 ?_
        refine s_get (k := 1) (x := (τ2.1 1 1)) C y1 fw_X7_134 rfl rfl dX7_stepRound_30 ?_
        exact s_iret C X dX7_stepRound_33 ⟨hXτ2, (Fr.tr Fr.rf (Fr.mo h3.2.1 (by decide) (by decide))), trivial⟩
    · refine s_bipush C dX7_stepRound_18 (by decide) (fun z12 tz12 => ?_)
      exact s_iret C X dX7_stepRound_20 ⟨hXτ2, (Fr.tr Fr.rf (Fr.mo h3.2.1 (by decide) (by decide))), trivial⟩
set_option maxRecDepth 100000 in
theorem c_X7_leastWith_0 (l : Launch) (ad : Nat → Nat) (σ : Sg) (p : Int32) (n : Int32) (hX : IX σ.1) (hp : 0 ≤ p.toInt ∧ p.toInt ≤ 3) (hn : 1 ≤ n.toInt ∧ n.toInt ≤ 5) : Mt l yX7_leastWith cX7_leastWith 4 (some .int) 6 ad σ [.ref (ad 37), .int p, .int n] (oI (fun r τ => IX τ.1 ∧ Fr [49, 50, 51] [(37, 3), (37, 4), (37, 5), (37, 6), (37, 7)] σ τ ∧ True)) := by
  have hpr := hX.pr
  have hsz := hX.sz
  refine Mt_intro (by decide +kernel) (by simp [lg_sl, Value.category]) (fun E C X => ?_)
  show WP E ad 0 [some (.ref (ad 37)), some (.int p), some (.int n), none] [] σ
  refine s_aload_n C dX7_leastWith_0 rfl ?_
  refine s_callVV (st := []) C (c_X7_needSlice_0 l ad σ  hX ) cv_X7_124 y37 rfl rfl rfl ⟨by decide, by decide⟩ (Nat.le_of_ble_eq_true rfl) dX7_leastWith_1 ?_
  intro τ2 h3
  have hXτ2 := h3.1
  have hRτ2 := h3.2.2
  have prτ2 := hXτ2.pr
  have szτ2 := hXτ2.sz
  refine s_aload_n C dX7_leastWith_4 rfl ?_
  refine s_getr (k := 9) (j := 50) C y37 fw_X7_32 rfl dX7_leastWith_5 ?_
  refine s_iload_n C dX7_leastWith_8 rfl ?_
  refine s_bipush C dX7_leastWith_9 (by decide) (fun z4 tz4 => ?_)
  refine s_imulR C tz4 dX7_leastWith_11 (by omega) (fun z5 tz5 => ?_)
  refine s_iload_n C dX7_leastWith_12 rfl ?_
  refine s_iadd C dX7_leastWith_13 (by omega) (fun z6 tz6 => ?_)
  refine s_iald (r := (τ2.1 50 z6.toNatClampNeg)) C y50 (by omega) rfl dX7_leastWith_14 ?_
  refine s_istore_n C dX7_leastWith_15 (by decide) (Nat.le_of_ble_eq_true rfl) rfl ?_
  show WP E ad 16 [some (.ref (ad 37)), some (.int p), some (.int n), some (.int (τ2.1 50 z6.toNatClampNeg))] [] τ2
  refine s_iload_n C dX7_leastWith_16 rfl ?_
  refine s_iconst C dX7_leastWith_17 (by decide) (fun z7 tz7 => ?_)
  refine s_icmp_ne (tgt := 26) C dX7_leastWith_18 (by decide) (fun q8 => ?_) (fun q8 => ?_)
  · refine s_aload_n C dX7_leastWith_26 rfl ?_
    refine s_getr (k := 1) (j := 61) C y37 fw_X7_42 rfl dX7_leastWith_27 ?_
    refine s_iload_n C dX7_leastWith_30 rfl ?_
    refine s_callVI (st := []) C (c_X2_numberOf l ad τ2 ((τ2.1 50 z6.toNatClampNeg)) hXτ2) cv_X7_137 y61 rfl rfl rfl ⟨by decide, by decide⟩ (Nat.le_of_ble_eq_true rfl) dX7_leastWith_31 ?_
    intro r9 τ10 h11
    obtain ⟨eh11, h11⟩ := h11; replace eh11 := eh11.symm; subst eh11
    exact s_iret C X dX7_leastWith_34 ⟨hXτ2, (Fr.tr Fr.rf (Fr.mo h3.2.1 (by decide) (by decide))), trivial⟩
  · refine s_bipush C dX7_leastWith_21 (by decide) (fun z12 tz12 => ?_)
    refine s_goto (tgt := 34) C dX7_leastWith_23 (by decide) ?_
    exact s_iret C X dX7_leastWith_34 ⟨hXτ2, (Fr.tr Fr.rf (Fr.mo h3.2.1 (by decide) (by decide))), trivial⟩
set_option maxRecDepth 100000 in
theorem L_cmt_0_0 (l : Launch) (ad : Nat → Nat) (E : Ev) (σ : Sg) (C : Cx E l (rmk 2) 4 cX7_copyMetTo RX7) (X : Rx E ad (some .int) (oI (fun r τ => IX τ.1 ∧ Fr [58] [(40, 0)] σ τ ∧ True)))  : ∀ (n : Nat) (τ : Sg) (a : Int32) (z : Int32), (Fr [58] [(40, 0)] σ τ) → (IX τ.1) → (0 ≤ a.toInt ∧ a.toInt ≤ 20) → (0 ≤ z.toInt) → (1296 - z.toInt).toNat < n → WP E ad 17 [some (.ref (ad 37)), some (.ref (ad 40)), some (.int a), some (.int z)] [] τ := by
  intro n
  induction n with
  | zero => intro τ a z kF hXτ ha h0 hm9; exact absurd hm9 (Nat.not_lt_zero _)
  | succ n ih =>
    intro τ a z kF hXτ ha h0 hm9
    have hpr := hXτ.pr
    have hsz := hXτ.sz
    have hls := hXτ.L0
    refine s_iload_n C dX7_copyMetTo_17 rfl ?_
    refine s_aload_n C dX7_copyMetTo_18 rfl ?_
    refine s_getr (k := 1) (j := 61) C y37 fw_X7_42 rfl dX7_copyMetTo_19 ?_
    refine s_get (k := 2) (x := (τ.1 61 2)) C y61 fw_X7_62 rfl rfl dX7_copyMetTo_22 ?_
    refine s_icmp_ge (tgt := 64) C dX7_copyMetTo_25 (by decide) (fun q1 => ?_) (fun q1 => ?_)
    · refine s_aload_n C dX7_copyMetTo_64 rfl ?_
      refine s_get (k := 0) (x := (τ.1 40 0)) C y40 fw_X7_150 rfl rfl dX7_copyMetTo_65 ?_
      exact s_iret C X dX7_copyMetTo_68 ⟨hXτ, kF, trivial⟩
    · refine s_iload_n C dX7_copyMetTo_28 rfl ?_
      refine s_aload_n C dX7_copyMetTo_29 rfl ?_
      refine s_get (k := 0) (x := (τ.1 40 0)) C y40 fw_X7_150 rfl rfl dX7_copyMetTo_30 ?_
      refine s_icmp_ge (tgt := 64) C dX7_copyMetTo_33 (by decide) (fun q2 => ?_) (fun q2 => ?_)
      · refine s_aload_n C dX7_copyMetTo_64 rfl ?_
        refine s_get (k := 0) (x := (τ.1 40 0)) C y40 fw_X7_150 rfl rfl dX7_copyMetTo_65 ?_
        exact s_iret C X dX7_copyMetTo_68 ⟨hXτ, kF, trivial⟩
      · refine s_aload_n C dX7_copyMetTo_36 rfl ?_
        refine s_getr (k := 8) (j := 49) C y37 fw_X7_28 rfl dX7_copyMetTo_37 ?_
        refine s_iload_n C dX7_copyMetTo_40 rfl ?_
        refine s_iald (r := (τ.1 49 z.toNatClampNeg)) C y49 (by omega) rfl dX7_copyMetTo_41 ?_
        refine s_iconst C dX7_copyMetTo_42 (by decide) (fun z3 tz3 => ?_)
        refine s_iand C dX7_copyMetTo_43 (fun z4 tz4 => ?_)
        refine s_if_eq (tgt := 58) C dX7_copyMetTo_44 (by decide) (fun q5 => ?_) (fun q5 => ?_)
        · refine s_iinc C dX7_copyMetTo_58 rfl (by decide) rfl (by decide) (by omega) (fun z6 tz6 => ?_)
          show WP E ad 61 [some (.ref (ad 37)), some (.ref (ad 40)), some (.int a), some (.int z6)] [] τ
          refine s_goto (tgt := 17) C dX7_copyMetTo_61 (by decide) ?_
          exact ih τ a z6 (Fr.tr Fr.rf (Fr.mo kF (by decide) (by decide))) hXτ (by omega) (by omega) (by omega)
        · refine s_aload_n C dX7_copyMetTo_47 rfl ?_
          refine s_getr (k := 1) (j := 58) C y40 fw_X7_151 rfl dX7_copyMetTo_48 ?_
          refine s_iload_n C dX7_copyMetTo_51 rfl ?_
          refine s_iload_n C dX7_copyMetTo_52 rfl ?_
          refine s_i2l C dX7_copyMetTo_53 (fun L7 tL7 => ?_)
          refine s_last C y58 (by omega) dX7_copyMetTo_54 ?_
          refine s_iinc C dX7_copyMetTo_55 rfl (by decide) rfl (by decide) (by omega) (fun z8 tz8 => ?_)
          show WP E ad 58 [some (.ref (ad 37)), some (.ref (ad 40)), some (.int z8), some (.int z)] [] (sL τ 58 a.toNatClampNeg L7)
          refine s_iinc C dX7_copyMetTo_58 rfl (by decide) rfl (by decide) (by omega) (fun z9 tz9 => ?_)
          show WP E ad 61 [some (.ref (ad 37)), some (.ref (ad 40)), some (.int z8), some (.int z9)] [] (sL τ 58 a.toNatClampNeg L7)
          refine s_goto (tgt := 17) C dX7_copyMetTo_61 (by decide) ?_
          exact ih (sL τ 58 a.toNatClampNeg L7) z8 z9 (Fr.sL (Fr.tr Fr.rf (Fr.mo kF (by decide) (by decide))) (by decide)) hXτ (by omega) (by omega) (by omega)
set_option maxRecDepth 100000 in
theorem c_X7_copyMetTo_0_0 (l : Launch) (ad : Nat → Nat) (σ : Sg) (hX : IX σ.1) : Mt l yX7_copyMetTo cX7_copyMetTo 4 (some .int) 2 ad σ [.ref (ad 37), .ref (ad 40)] (oI (fun r τ => IX τ.1 ∧ Fr [58] [(40, 0)] σ τ ∧ True)) := by
  refine Mt_intro (by decide +kernel) (by simp [lg_sl, Value.category]) (fun E C X => ?_)
  show WP E ad 0 [some (.ref (ad 37)), some (.ref (ad 40)), none, none] [] σ
  refine s_aload_n C dX7_copyMetTo_0 rfl ?_
  refine s_aload_n C dX7_copyMetTo_1 rfl ?_
  refine s_get (k := 6) (x := (σ.1 37 6)) C y37 fw_X7_21 rfl rfl dX7_copyMetTo_2 ?_
  refine s_bipush C dX7_copyMetTo_5 (by decide) (fun z1 tz1 => ?_)
  refine s_mmin (idx := 140) C (mw 926 (by decide +kernel) rfl) (mw 927 (by decide +kernel) rfl) (mw 73 (by decide +kernel) rfl) (mw 928 (by decide +kernel) rfl) (by decide) (Nat.le_of_ble_eq_true rfl) dX7_copyMetTo_7 (fun z2 tz2 => ?_)
  refine s_callVV (st := []) C (c_X3_resize_0 l ad σ z2) cv_X7_145 y40 rfl rfl rfl ⟨by decide, by decide⟩ (Nat.le_of_ble_eq_true rfl) dX7_copyMetTo_10 ?_
  intro τ4 h5
  obtain ⟨LLh5, eh5⟩ := h5; subst eh5
  refine s_iconst C dX7_copyMetTo_13 (by decide) (fun z6 tz6 => ?_)
  refine s_istore_n C dX7_copyMetTo_14 (by decide) (Nat.le_of_ble_eq_true rfl) rfl ?_
  show WP E ad 15 [some (.ref (ad 37)), some (.ref (ad 40)), some (.int z6), none] [] (sQ (sV σ 40 0 z2) 58 (fun _ => LLh5))
  refine s_iconst C dX7_copyMetTo_15 (by decide) (fun z7 tz7 => ?_)
  refine s_istore_n C dX7_copyMetTo_16 (by decide) (Nat.le_of_ble_eq_true rfl) rfl ?_
  show WP E ad 17 [some (.ref (ad 37)), some (.ref (ad 40)), some (.int z6), some (.int z7)] [] (sQ (sV σ 40 0 z2) 58 (fun _ => LLh5))
  exact L_cmt_0_0 l ad E σ C X 5000 (sQ (sV σ 40 0 z2) 58 (fun _ => LLh5)) z6 z7 (Fr.sQ (Fr.sV Fr.rf (Or.inr (by decide))) (by decide)) ⟨hX.1, hX.2.1, hX.2.2.1, hX.2.2.2.1, hX.2.2.2.2.1, hX.2.2.2.2.2.1, hX.2.2.2.2.2.2.1, hX.2.2.2.2.2.2.2.1, (by show Int32.toInt z2 ≤ 20; omega), hX.2.2.2.2.2.2.2.2.2.1, hX.2.2.2.2.2.2.2.2.2.2.1, hX.2.2.2.2.2.2.2.2.2.2.2.1, hX.2.2.2.2.2.2.2.2.2.2.2.2.1, hX.2.2.2.2.2.2.2.2.2.2.2.2.2⟩ (by omega) (by omega) (by omega)
set_option maxRecDepth 100000 in
theorem L_judge_0_0 (l : Launch) (ad : Nat → Nat) (E : Ev) (σ : Sg) (hX : IX σ.1) (C : Cx E l (rmk 0) 4 cX7_judgeOf RX7) (X : Rx E ad (some .int) (oI (fun r τ => τ = σ ∧ True)))  : ∀ (n : Nat) (a : Int32) (z : Int32), (0 ≤ a.toInt ∧ a.toInt ≤ 20) → (0 ≤ z.toInt) → (1296 - z.toInt).toNat < n → WP E ad 4 [some (.ref (ad 37)), some (.ref (ad 40)), some (.int a), some (.int z)] [] σ := by
  intro n
  induction n with
  | zero => intro a z ha h0 hm9; exact absurd hm9 (Nat.not_lt_zero _)
  | succ n ih =>
    intro a z ha h0 hm9
    have hpr := hX.pr
    have hsz := hX.sz
    have hls := hX.L0
    refine s_iload_n C dX7_judgeOf_4 rfl ?_
    refine s_aload_n C dX7_judgeOf_5 rfl ?_
    refine s_getr (k := 1) (j := 61) C y37 fw_X7_42 rfl dX7_judgeOf_6 ?_
    refine s_get (k := 2) (x := (σ.1 61 2)) C y61 fw_X7_62 rfl rfl dX7_judgeOf_9 ?_
    refine s_icmp_ge (tgt := 57) C dX7_judgeOf_12 (by decide) (fun q1 => ?_) (fun q1 => ?_)
    · refine s_iload_n C dX7_judgeOf_57 rfl ?_
      refine s_aload_n C dX7_judgeOf_58 rfl ?_
      refine s_get (k := 0) (x := (σ.1 40 0)) C y40 fw_X7_150 rfl rfl dX7_judgeOf_59 ?_
      refine s_icmp_ne (tgt := 75) C dX7_judgeOf_62 (by decide) (fun q2 => ?_) (fun q2 => ?_)
      · refine s_iload_n C dX7_judgeOf_75 rfl ?_
        exact s_iret C X dX7_judgeOf_76 ⟨rfl, trivial⟩
      · refine s_bipush C dX7_judgeOf_65 (by decide) (fun z3 tz3 => ?_)
        refine s_aload_n C dX7_judgeOf_67 rfl ?_
        refine s_get (k := 0) (x := (σ.1 40 0)) C y40 fw_X7_150 rfl rfl dX7_judgeOf_68 ?_
        refine s_iaddU C dX7_judgeOf_71 (fun z4 tz4 => ?_)
        refine s_goto (tgt := 76) C dX7_judgeOf_72 (by decide) ?_
        exact s_iret C X dX7_judgeOf_76 ⟨rfl, trivial⟩
    · refine s_iload_n C dX7_judgeOf_15 rfl ?_
      refine s_aload_n C dX7_judgeOf_16 rfl ?_
      refine s_get (k := 0) (x := (σ.1 40 0)) C y40 fw_X7_150 rfl rfl dX7_judgeOf_17 ?_
      refine s_icmp_ge (tgt := 57) C dX7_judgeOf_20 (by decide) (fun q5 => ?_) (fun q5 => ?_)
      · refine s_iload_n C dX7_judgeOf_57 rfl ?_
        refine s_aload_n C dX7_judgeOf_58 rfl ?_
        refine s_get (k := 0) (x := (σ.1 40 0)) C y40 fw_X7_150 rfl rfl dX7_judgeOf_59 ?_
        refine s_icmp_ne (tgt := 75) C dX7_judgeOf_62 (by decide) (fun q6 => ?_) (fun q6 => ?_)
        · refine s_iload_n C dX7_judgeOf_75 rfl ?_
          exact s_iret C X dX7_judgeOf_76 ⟨rfl, trivial⟩
        · refine s_bipush C dX7_judgeOf_65 (by decide) (fun z7 tz7 => ?_)
          refine s_aload_n C dX7_judgeOf_67 rfl ?_
          refine s_get (k := 0) (x := (σ.1 40 0)) C y40 fw_X7_150 rfl rfl dX7_judgeOf_68 ?_
          refine s_iaddU C dX7_judgeOf_71 (fun z8 tz8 => ?_)
          refine s_goto (tgt := 76) C dX7_judgeOf_72 (by decide) ?_
          exact s_iret C X dX7_judgeOf_76 ⟨rfl, trivial⟩
      · refine s_aload_n C dX7_judgeOf_23 rfl ?_
        refine s_getr (k := 8) (j := 49) C y37 fw_X7_28 rfl dX7_judgeOf_24 ?_
        refine s_iload_n C dX7_judgeOf_27 rfl ?_
        refine s_iald (r := (σ.1 49 z.toNatClampNeg)) C y49 (by omega) rfl dX7_judgeOf_28 ?_
        refine s_iconst C dX7_judgeOf_29 (by decide) (fun z9 tz9 => ?_)
        refine s_iand C dX7_judgeOf_30 (fun z10 tz10 => ?_)
        refine s_if_eq (tgt := 51) C dX7_judgeOf_31 (by decide) (fun q11 => ?_) (fun q11 => ?_)
        · refine s_iinc C dX7_judgeOf_51 rfl (by decide) rfl (by decide) (by omega) (fun z12 tz12 => ?_)
          show WP E ad 54 [some (.ref (ad 37)), some (.ref (ad 40)), some (.int a), some (.int z12)] [] σ
          refine s_goto (tgt := 4) C dX7_judgeOf_54 (by decide) ?_
          exact ih a z12 (by omega) (by omega) (by omega)
        · refine s_aload_n C dX7_judgeOf_34 rfl ?_
          refine s_getr (k := 1) (j := 58) C y40 fw_X7_151 rfl dX7_judgeOf_35 ?_
          refine s_iload_n C dX7_judgeOf_38 rfl ?_
          refine s_lald (r := (σ.2 58 a.toNatClampNeg)) C y58 (by omega) rfl dX7_judgeOf_39 ?_
          refine s_iload_n C dX7_judgeOf_40 rfl ?_
          refine s_i2l C dX7_judgeOf_41 (fun L13 tL13 => ?_)
          refine s_lcmp C dX7_judgeOf_42 (fun z14 tz14 => ?_)
          refine s_if_eq (tgt := 48) C dX7_judgeOf_43 (by decide) (fun q15 => ?_) (fun q15 => ?_)
          · refine s_iinc C dX7_judgeOf_48 rfl (by decide) rfl (by decide) (by omega) (fun z16 tz16 => ?_)
            show WP E ad 51 [some (.ref (ad 37)), some (.ref (ad 40)), some (.int z16), some (.int z)] [] σ
            refine s_iinc C dX7_judgeOf_51 rfl (by decide) rfl (by decide) (by omega) (fun z17 tz17 => ?_)
            show WP E ad 54 [some (.ref (ad 37)), some (.ref (ad 40)), some (.int z16), some (.int z17)] [] σ
            refine s_goto (tgt := 4) C dX7_judgeOf_54 (by decide) ?_
            exact ih z16 z17 (by omega) (by omega) (by omega)
          · refine s_iload_n C dX7_judgeOf_46 rfl ?_
            exact s_iret C X dX7_judgeOf_47 ⟨rfl, trivial⟩
set_option maxRecDepth 100000 in
theorem c_X7_judgeOf_0_0 (l : Launch) (ad : Nat → Nat) (σ : Sg) (hX : IX σ.1) : Mt l yX7_judgeOf cX7_judgeOf 4 (some .int) 0 ad σ [.ref (ad 37), .ref (ad 40)] (oI (fun r τ => τ = σ ∧ True)) := by
  refine Mt_intro (by decide +kernel) (by simp [lg_sl, Value.category]) (fun E C X => ?_)
  show WP E ad 0 [some (.ref (ad 37)), some (.ref (ad 40)), none, none] [] σ
  refine s_iconst C dX7_judgeOf_0 (by decide) (fun z1 tz1 => ?_)
  refine s_istore_n C dX7_judgeOf_1 (by decide) (Nat.le_of_ble_eq_true rfl) rfl ?_
  show WP E ad 2 [some (.ref (ad 37)), some (.ref (ad 40)), some (.int z1), none] [] σ
  refine s_iconst C dX7_judgeOf_2 (by decide) (fun z2 tz2 => ?_)
  refine s_istore_n C dX7_judgeOf_3 (by decide) (Nat.le_of_ble_eq_true rfl) rfl ?_
  show WP E ad 4 [some (.ref (ad 37)), some (.ref (ad 40)), some (.int z1), some (.int z2)] [] σ
  exact L_judge_0_0 l ad E σ hX C X 5000 z1 z2 (by omega) (by omega) (by omega)
set_option maxRecDepth 100000 in
theorem L_cmt_0_1 (l : Launch) (ad : Nat → Nat) (E : Ev) (σ : Sg) (C : Cx E l (rmk 2) 4 cX7_copyMetTo RX7) (X : Rx E ad (some .int) (oI (fun r τ => IX τ.1 ∧ Fr [59] [(41, 0)] σ τ ∧ True)))  : ∀ (n : Nat) (τ : Sg) (a : Int32) (z : Int32), (Fr [59] [(41, 0)] σ τ) → (IX τ.1) → (0 ≤ a.toInt ∧ a.toInt ≤ 20) → (0 ≤ z.toInt) → (1296 - z.toInt).toNat < n → WP E ad 17 [some (.ref (ad 37)), some (.ref (ad 41)), some (.int a), some (.int z)] [] τ := by
  intro n
  induction n with
  | zero => intro τ a z kF hXτ ha h0 hm9; exact absurd hm9 (Nat.not_lt_zero _)
  | succ n ih =>
    intro τ a z kF hXτ ha h0 hm9
    have hpr := hXτ.pr
    have hsz := hXτ.sz
    have hls := hXτ.L1
    refine s_iload_n C dX7_copyMetTo_17 rfl ?_
    refine s_aload_n C dX7_copyMetTo_18 rfl ?_
    refine s_getr (k := 1) (j := 61) C y37 fw_X7_42 rfl dX7_copyMetTo_19 ?_
    refine s_get (k := 2) (x := (τ.1 61 2)) C y61 fw_X7_62 rfl rfl dX7_copyMetTo_22 ?_
    refine s_icmp_ge (tgt := 64) C dX7_copyMetTo_25 (by decide) (fun q1 => ?_) (fun q1 => ?_)
    · refine s_aload_n C dX7_copyMetTo_64 rfl ?_
      refine s_get (k := 0) (x := (τ.1 41 0)) C y41 fw_X7_150 rfl rfl dX7_copyMetTo_65 ?_
      exact s_iret C X dX7_copyMetTo_68 ⟨hXτ, kF, trivial⟩
    · refine s_iload_n C dX7_copyMetTo_28 rfl ?_
      refine s_aload_n C dX7_copyMetTo_29 rfl ?_
      refine s_get (k := 0) (x := (τ.1 41 0)) C y41 fw_X7_150 rfl rfl dX7_copyMetTo_30 ?_
      refine s_icmp_ge (tgt := 64) C dX7_copyMetTo_33 (by decide) (fun q2 => ?_) (fun q2 => ?_)
      · refine s_aload_n C dX7_copyMetTo_64 rfl ?_
        refine s_get (k := 0) (x := (τ.1 41 0)) C y41 fw_X7_150 rfl rfl dX7_copyMetTo_65 ?_
        exact s_iret C X dX7_copyMetTo_68 ⟨hXτ, kF, trivial⟩
      · refine s_aload_n C dX7_copyMetTo_36 rfl ?_
        refine s_getr (k := 8) (j := 49) C y37 fw_X7_28 rfl dX7_copyMetTo_37 ?_
        refine s_iload_n C dX7_copyMetTo_40 rfl ?_
        refine s_iald (r := (τ.1 49 z.toNatClampNeg)) C y49 (by omega) rfl dX7_copyMetTo_41 ?_
        refine s_iconst C dX7_copyMetTo_42 (by decide) (fun z3 tz3 => ?_)
        refine s_iand C dX7_copyMetTo_43 (fun z4 tz4 => ?_)
        refine s_if_eq (tgt := 58) C dX7_copyMetTo_44 (by decide) (fun q5 => ?_) (fun q5 => ?_)
        · refine s_iinc C dX7_copyMetTo_58 rfl (by decide) rfl (by decide) (by omega) (fun z6 tz6 => ?_)
          show WP E ad 61 [some (.ref (ad 37)), some (.ref (ad 41)), some (.int a), some (.int z6)] [] τ
          refine s_goto (tgt := 17) C dX7_copyMetTo_61 (by decide) ?_
          exact ih τ a z6 (Fr.tr Fr.rf (Fr.mo kF (by decide) (by decide))) hXτ (by omega) (by omega) (by omega)
        · refine s_aload_n C dX7_copyMetTo_47 rfl ?_
          refine s_getr (k := 1) (j := 59) C y41 fw_X7_151 rfl dX7_copyMetTo_48 ?_
          refine s_iload_n C dX7_copyMetTo_51 rfl ?_
          refine s_iload_n C dX7_copyMetTo_52 rfl ?_
          refine s_i2l C dX7_copyMetTo_53 (fun L7 tL7 => ?_)
          refine s_last C y59 (by omega) dX7_copyMetTo_54 ?_
          refine s_iinc C dX7_copyMetTo_55 rfl (by decide) rfl (by decide) (by omega) (fun z8 tz8 => ?_)
          show WP E ad 58 [some (.ref (ad 37)), some (.ref (ad 41)), some (.int z8), some (.int z)] [] (sL τ 59 a.toNatClampNeg L7)
          refine s_iinc C dX7_copyMetTo_58 rfl (by decide) rfl (by decide) (by omega) (fun z9 tz9 => ?_)
          show WP E ad 61 [some (.ref (ad 37)), some (.ref (ad 41)), some (.int z8), some (.int z9)] [] (sL τ 59 a.toNatClampNeg L7)
          refine s_goto (tgt := 17) C dX7_copyMetTo_61 (by decide) ?_
          exact ih (sL τ 59 a.toNatClampNeg L7) z8 z9 (Fr.sL (Fr.tr Fr.rf (Fr.mo kF (by decide) (by decide))) (by decide)) hXτ (by omega) (by omega) (by omega)
set_option maxRecDepth 100000 in
theorem c_X7_copyMetTo_0_1 (l : Launch) (ad : Nat → Nat) (σ : Sg) (hX : IX σ.1) : Mt l yX7_copyMetTo cX7_copyMetTo 4 (some .int) 2 ad σ [.ref (ad 37), .ref (ad 41)] (oI (fun r τ => IX τ.1 ∧ Fr [59] [(41, 0)] σ τ ∧ True)) := by
  refine Mt_intro (by decide +kernel) (by simp [lg_sl, Value.category]) (fun E C X => ?_)
  show WP E ad 0 [some (.ref (ad 37)), some (.ref (ad 41)), none, none] [] σ
  refine s_aload_n C dX7_copyMetTo_0 rfl ?_
  refine s_aload_n C dX7_copyMetTo_1 rfl ?_
  refine s_get (k := 6) (x := (σ.1 37 6)) C y37 fw_X7_21 rfl rfl dX7_copyMetTo_2 ?_
  refine s_bipush C dX7_copyMetTo_5 (by decide) (fun z1 tz1 => ?_)
  refine s_mmin (idx := 140) C (mw 926 (by decide +kernel) rfl) (mw 927 (by decide +kernel) rfl) (mw 73 (by decide +kernel) rfl) (mw 928 (by decide +kernel) rfl) (by decide) (Nat.le_of_ble_eq_true rfl) dX7_copyMetTo_7 (fun z2 tz2 => ?_)
  refine s_callVV (st := []) C (c_X3_resize_1 l ad σ z2) cv_X7_145 y41 rfl rfl rfl ⟨by decide, by decide⟩ (Nat.le_of_ble_eq_true rfl) dX7_copyMetTo_10 ?_
  intro τ4 h5
  obtain ⟨LLh5, eh5⟩ := h5; subst eh5
  refine s_iconst C dX7_copyMetTo_13 (by decide) (fun z6 tz6 => ?_)
  refine s_istore_n C dX7_copyMetTo_14 (by decide) (Nat.le_of_ble_eq_true rfl) rfl ?_
  show WP E ad 15 [some (.ref (ad 37)), some (.ref (ad 41)), some (.int z6), none] [] (sQ (sV σ 41 0 z2) 59 (fun _ => LLh5))
  refine s_iconst C dX7_copyMetTo_15 (by decide) (fun z7 tz7 => ?_)
  refine s_istore_n C dX7_copyMetTo_16 (by decide) (Nat.le_of_ble_eq_true rfl) rfl ?_
  show WP E ad 17 [some (.ref (ad 37)), some (.ref (ad 41)), some (.int z6), some (.int z7)] [] (sQ (sV σ 41 0 z2) 59 (fun _ => LLh5))
  exact L_cmt_0_1 l ad E σ C X 5000 (sQ (sV σ 41 0 z2) 59 (fun _ => LLh5)) z6 z7 (Fr.sQ (Fr.sV Fr.rf (Or.inr (by decide))) (by decide)) ⟨hX.1, hX.2.1, hX.2.2.1, hX.2.2.2.1, hX.2.2.2.2.1, hX.2.2.2.2.2.1, hX.2.2.2.2.2.2.1, hX.2.2.2.2.2.2.2.1, hX.2.2.2.2.2.2.2.2.1, (by show Int32.toInt z2 ≤ 20; omega), hX.2.2.2.2.2.2.2.2.2.2.1, hX.2.2.2.2.2.2.2.2.2.2.2.1, hX.2.2.2.2.2.2.2.2.2.2.2.2.1, hX.2.2.2.2.2.2.2.2.2.2.2.2.2⟩ (by omega) (by omega) (by omega)
set_option maxRecDepth 100000 in
theorem L_judge_0_1 (l : Launch) (ad : Nat → Nat) (E : Ev) (σ : Sg) (hX : IX σ.1) (C : Cx E l (rmk 0) 4 cX7_judgeOf RX7) (X : Rx E ad (some .int) (oI (fun r τ => τ = σ ∧ True)))  : ∀ (n : Nat) (a : Int32) (z : Int32), (0 ≤ a.toInt ∧ a.toInt ≤ 20) → (0 ≤ z.toInt) → (1296 - z.toInt).toNat < n → WP E ad 4 [some (.ref (ad 37)), some (.ref (ad 41)), some (.int a), some (.int z)] [] σ := by
  intro n
  induction n with
  | zero => intro a z ha h0 hm9; exact absurd hm9 (Nat.not_lt_zero _)
  | succ n ih =>
    intro a z ha h0 hm9
    have hpr := hX.pr
    have hsz := hX.sz
    have hls := hX.L1
    refine s_iload_n C dX7_judgeOf_4 rfl ?_
    refine s_aload_n C dX7_judgeOf_5 rfl ?_
    refine s_getr (k := 1) (j := 61) C y37 fw_X7_42 rfl dX7_judgeOf_6 ?_
    refine s_get (k := 2) (x := (σ.1 61 2)) C y61 fw_X7_62 rfl rfl dX7_judgeOf_9 ?_
    refine s_icmp_ge (tgt := 57) C dX7_judgeOf_12 (by decide) (fun q1 => ?_) (fun q1 => ?_)
    · refine s_iload_n C dX7_judgeOf_57 rfl ?_
      refine s_aload_n C dX7_judgeOf_58 rfl ?_
      refine s_get (k := 0) (x := (σ.1 41 0)) C y41 fw_X7_150 rfl rfl dX7_judgeOf_59 ?_
      refine s_icmp_ne (tgt := 75) C dX7_judgeOf_62 (by decide) (fun q2 => ?_) (fun q2 => ?_)
      · refine s_iload_n C dX7_judgeOf_75 rfl ?_
        exact s_iret C X dX7_judgeOf_76 ⟨rfl, trivial⟩
      · refine s_bipush C dX7_judgeOf_65 (by decide) (fun z3 tz3 => ?_)
        refine s_aload_n C dX7_judgeOf_67 rfl ?_
        refine s_get (k := 0) (x := (σ.1 41 0)) C y41 fw_X7_150 rfl rfl dX7_judgeOf_68 ?_
        refine s_iaddU C dX7_judgeOf_71 (fun z4 tz4 => ?_)
        refine s_goto (tgt := 76) C dX7_judgeOf_72 (by decide) ?_
        exact s_iret C X dX7_judgeOf_76 ⟨rfl, trivial⟩
    · refine s_iload_n C dX7_judgeOf_15 rfl ?_
      refine s_aload_n C dX7_judgeOf_16 rfl ?_
      refine s_get (k := 0) (x := (σ.1 41 0)) C y41 fw_X7_150 rfl rfl dX7_judgeOf_17 ?_
      refine s_icmp_ge (tgt := 57) C dX7_judgeOf_20 (by decide) (fun q5 => ?_) (fun q5 => ?_)
      · refine s_iload_n C dX7_judgeOf_57 rfl ?_
        refine s_aload_n C dX7_judgeOf_58 rfl ?_
        refine s_get (k := 0) (x := (σ.1 41 0)) C y41 fw_X7_150 rfl rfl dX7_judgeOf_59 ?_
        refine s_icmp_ne (tgt := 75) C dX7_judgeOf_62 (by decide) (fun q6 => ?_) (fun q6 => ?_)
        · refine s_iload_n C dX7_judgeOf_75 rfl ?_
          exact s_iret C X dX7_judgeOf_76 ⟨rfl, trivial⟩
        · refine s_bipush C dX7_judgeOf_65 (by decide) (fun z7 tz7 => ?_)
          refine s_aload_n C dX7_judgeOf_67 rfl ?_
          refine s_get (k := 0) (x := (σ.1 41 0)) C y41 fw_X7_150 rfl rfl dX7_judgeOf_68 ?_
          refine s_iaddU C dX7_judgeOf_71 (fun z8 tz8 => ?_)
          refine s_goto (tgt := 76) C dX7_judgeOf_72 (by decide) ?_
          exact s_iret C X dX7_judgeOf_76 ⟨rfl, trivial⟩
      · refine s_aload_n C dX7_judgeOf_23 rfl ?_
        refine s_getr (k := 8) (j := 49) C y37 fw_X7_28 rfl dX7_judgeOf_24 ?_
        refine s_iload_n C dX7_judgeOf_27 rfl ?_
        refine s_iald (r := (σ.1 49 z.toNatClampNeg)) C y49 (by omega) rfl dX7_judgeOf_28 ?_
        refine s_iconst C dX7_judgeOf_29 (by decide) (fun z9 tz9 => ?_)
        refine s_iand C dX7_judgeOf_30 (fun z10 tz10 => ?_)
        refine s_if_eq (tgt := 51) C dX7_judgeOf_31 (by decide) (fun q11 => ?_) (fun q11 => ?_)
        · refine s_iinc C dX7_judgeOf_51 rfl (by decide) rfl (by decide) (by omega) (fun z12 tz12 => ?_)
          show WP E ad 54 [some (.ref (ad 37)), some (.ref (ad 41)), some (.int a), some (.int z12)] [] σ
          refine s_goto (tgt := 4) C dX7_judgeOf_54 (by decide) ?_
          exact ih a z12 (by omega) (by omega) (by omega)
        · refine s_aload_n C dX7_judgeOf_34 rfl ?_
          refine s_getr (k := 1) (j := 59) C y41 fw_X7_151 rfl dX7_judgeOf_35 ?_
          refine s_iload_n C dX7_judgeOf_38 rfl ?_
          refine s_lald (r := (σ.2 59 a.toNatClampNeg)) C y59 (by omega) rfl dX7_judgeOf_39 ?_
          refine s_iload_n C dX7_judgeOf_40 rfl ?_
          refine s_i2l C dX7_judgeOf_41 (fun L13 tL13 => ?_)
          refine s_lcmp C dX7_judgeOf_42 (fun z14 tz14 => ?_)
          refine s_if_eq (tgt := 48) C dX7_judgeOf_43 (by decide) (fun q15 => ?_) (fun q15 => ?_)
          · refine s_iinc C dX7_judgeOf_48 rfl (by decide) rfl (by decide) (by omega) (fun z16 tz16 => ?_)
            show WP E ad 51 [some (.ref (ad 37)), some (.ref (ad 41)), some (.int z16), some (.int z)] [] σ
            refine s_iinc C dX7_judgeOf_51 rfl (by decide) rfl (by decide) (by omega) (fun z17 tz17 => ?_)
            show WP E ad 54 [some (.ref (ad 37)), some (.ref (ad 41)), some (.int z16), some (.int z17)] [] σ
            refine s_goto (tgt := 4) C dX7_judgeOf_54 (by decide) ?_
            exact ih z16 z17 (by omega) (by omega) (by omega)
          · refine s_iload_n C dX7_judgeOf_46 rfl ?_
            exact s_iret C X dX7_judgeOf_47 ⟨rfl, trivial⟩
set_option maxRecDepth 100000 in
theorem c_X7_judgeOf_0_1 (l : Launch) (ad : Nat → Nat) (σ : Sg) (hX : IX σ.1) : Mt l yX7_judgeOf cX7_judgeOf 4 (some .int) 0 ad σ [.ref (ad 37), .ref (ad 41)] (oI (fun r τ => τ = σ ∧ True)) := by
  refine Mt_intro (by decide +kernel) (by simp [lg_sl, Value.category]) (fun E C X => ?_)
  show WP E ad 0 [some (.ref (ad 37)), some (.ref (ad 41)), none, none] [] σ
  refine s_iconst C dX7_judgeOf_0 (by decide) (fun z1 tz1 => ?_)
  refine s_istore_n C dX7_judgeOf_1 (by decide) (Nat.le_of_ble_eq_true rfl) rfl ?_
  show WP E ad 2 [some (.ref (ad 37)), some (.ref (ad 41)), some (.int z1), none] [] σ
  refine s_iconst C dX7_judgeOf_2 (by decide) (fun z2 tz2 => ?_)
  refine s_istore_n C dX7_judgeOf_3 (by decide) (Nat.le_of_ble_eq_true rfl) rfl ?_
  show WP E ad 4 [some (.ref (ad 37)), some (.ref (ad 41)), some (.int z1), some (.int z2)] [] σ
  exact L_judge_0_1 l ad E σ hX C X 5000 z1 z2 (by omega) (by omega) (by omega)
set_option maxRecDepth 100000 in
theorem L_cmt_0_2 (l : Launch) (ad : Nat → Nat) (E : Ev) (σ : Sg) (C : Cx E l (rmk 2) 4 cX7_copyMetTo RX7) (X : Rx E ad (some .int) (oI (fun r τ => IX τ.1 ∧ Fr [60] [(42, 0)] σ τ ∧ True)))  : ∀ (n : Nat) (τ : Sg) (a : Int32) (z : Int32), (Fr [60] [(42, 0)] σ τ) → (IX τ.1) → (0 ≤ a.toInt ∧ a.toInt ≤ 20) → (0 ≤ z.toInt) → (1296 - z.toInt).toNat < n → WP E ad 17 [some (.ref (ad 37)), some (.ref (ad 42)), some (.int a), some (.int z)] [] τ := by
  intro n
  induction n with
  | zero => intro τ a z kF hXτ ha h0 hm9; exact absurd hm9 (Nat.not_lt_zero _)
  | succ n ih =>
    intro τ a z kF hXτ ha h0 hm9
    have hpr := hXτ.pr
    have hsz := hXτ.sz
    have hls := hXτ.L2
    refine s_iload_n C dX7_copyMetTo_17 rfl ?_
    refine s_aload_n C dX7_copyMetTo_18 rfl ?_
    refine s_getr (k := 1) (j := 61) C y37 fw_X7_42 rfl dX7_copyMetTo_19 ?_
    refine s_get (k := 2) (x := (τ.1 61 2)) C y61 fw_X7_62 rfl rfl dX7_copyMetTo_22 ?_
    refine s_icmp_ge (tgt := 64) C dX7_copyMetTo_25 (by decide) (fun q1 => ?_) (fun q1 => ?_)
    · refine s_aload_n C dX7_copyMetTo_64 rfl ?_
      refine s_get (k := 0) (x := (τ.1 42 0)) C y42 fw_X7_150 rfl rfl dX7_copyMetTo_65 ?_
      exact s_iret C X dX7_copyMetTo_68 ⟨hXτ, kF, trivial⟩
    · refine s_iload_n C dX7_copyMetTo_28 rfl ?_
      refine s_aload_n C dX7_copyMetTo_29 rfl ?_
      refine s_get (k := 0) (x := (τ.1 42 0)) C y42 fw_X7_150 rfl rfl dX7_copyMetTo_30 ?_
      refine s_icmp_ge (tgt := 64) C dX7_copyMetTo_33 (by decide) (fun q2 => ?_) (fun q2 => ?_)
      · refine s_aload_n C dX7_copyMetTo_64 rfl ?_
        refine s_get (k := 0) (x := (τ.1 42 0)) C y42 fw_X7_150 rfl rfl dX7_copyMetTo_65 ?_
        exact s_iret C X dX7_copyMetTo_68 ⟨hXτ, kF, trivial⟩
      · refine s_aload_n C dX7_copyMetTo_36 rfl ?_
        refine s_getr (k := 8) (j := 49) C y37 fw_X7_28 rfl dX7_copyMetTo_37 ?_
        refine s_iload_n C dX7_copyMetTo_40 rfl ?_
        refine s_iald (r := (τ.1 49 z.toNatClampNeg)) C y49 (by omega) rfl dX7_copyMetTo_41 ?_
        refine s_iconst C dX7_copyMetTo_42 (by decide) (fun z3 tz3 => ?_)
        refine s_iand C dX7_copyMetTo_43 (fun z4 tz4 => ?_)
        refine s_if_eq (tgt := 58) C dX7_copyMetTo_44 (by decide) (fun q5 => ?_) (fun q5 => ?_)
        · refine s_iinc C dX7_copyMetTo_58 rfl (by decide) rfl (by decide) (by omega) (fun z6 tz6 => ?_)
          show WP E ad 61 [some (.ref (ad 37)), some (.ref (ad 42)), some (.int a), some (.int z6)] [] τ
          refine s_goto (tgt := 17) C dX7_copyMetTo_61 (by decide) ?_
          exact ih τ a z6 (Fr.tr Fr.rf (Fr.mo kF (by decide) (by decide))) hXτ (by omega) (by omega) (by omega)
        · refine s_aload_n C dX7_copyMetTo_47 rfl ?_
          refine s_getr (k := 1) (j := 60) C y42 fw_X7_151 rfl dX7_copyMetTo_48 ?_
          refine s_iload_n C dX7_copyMetTo_51 rfl ?_
          refine s_iload_n C dX7_copyMetTo_52 rfl ?_
          refine s_i2l C dX7_copyMetTo_53 (fun L7 tL7 => ?_)
          refine s_last C y60 (by omega) dX7_copyMetTo_54 ?_
          refine s_iinc C dX7_copyMetTo_55 rfl (by decide) rfl (by decide) (by omega) (fun z8 tz8 => ?_)
          show WP E ad 58 [some (.ref (ad 37)), some (.ref (ad 42)), some (.int z8), some (.int z)] [] (sL τ 60 a.toNatClampNeg L7)
          refine s_iinc C dX7_copyMetTo_58 rfl (by decide) rfl (by decide) (by omega) (fun z9 tz9 => ?_)
          show WP E ad 61 [some (.ref (ad 37)), some (.ref (ad 42)), some (.int z8), some (.int z9)] [] (sL τ 60 a.toNatClampNeg L7)
          refine s_goto (tgt := 17) C dX7_copyMetTo_61 (by decide) ?_
          exact ih (sL τ 60 a.toNatClampNeg L7) z8 z9 (Fr.sL (Fr.tr Fr.rf (Fr.mo kF (by decide) (by decide))) (by decide)) hXτ (by omega) (by omega) (by omega)
set_option maxRecDepth 100000 in
theorem c_X7_copyMetTo_0_2 (l : Launch) (ad : Nat → Nat) (σ : Sg) (hX : IX σ.1) : Mt l yX7_copyMetTo cX7_copyMetTo 4 (some .int) 2 ad σ [.ref (ad 37), .ref (ad 42)] (oI (fun r τ => IX τ.1 ∧ Fr [60] [(42, 0)] σ τ ∧ True)) := by
  refine Mt_intro (by decide +kernel) (by simp [lg_sl, Value.category]) (fun E C X => ?_)
  show WP E ad 0 [some (.ref (ad 37)), some (.ref (ad 42)), none, none] [] σ
  refine s_aload_n C dX7_copyMetTo_0 rfl ?_
  refine s_aload_n C dX7_copyMetTo_1 rfl ?_
  refine s_get (k := 6) (x := (σ.1 37 6)) C y37 fw_X7_21 rfl rfl dX7_copyMetTo_2 ?_
  refine s_bipush C dX7_copyMetTo_5 (by decide) (fun z1 tz1 => ?_)
  refine s_mmin (idx := 140) C (mw 926 (by decide +kernel) rfl) (mw 927 (by decide +kernel) rfl) (mw 73 (by decide +kernel) rfl) (mw 928 (by decide +kernel) rfl) (by decide) (Nat.le_of_ble_eq_true rfl) dX7_copyMetTo_7 (fun z2 tz2 => ?_)
  refine s_callVV (st := []) C (c_X3_resize_2 l ad σ z2) cv_X7_145 y42 rfl rfl rfl ⟨by decide, by decide⟩ (Nat.le_of_ble_eq_true rfl) dX7_copyMetTo_10 ?_
  intro τ4 h5
  obtain ⟨LLh5, eh5⟩ := h5; subst eh5
  refine s_iconst C dX7_copyMetTo_13 (by decide) (fun z6 tz6 => ?_)
  refine s_istore_n C dX7_copyMetTo_14 (by decide) (Nat.le_of_ble_eq_true rfl) rfl ?_
  show WP E ad 15 [some (.ref (ad 37)), some (.ref (ad 42)), some (.int z6), none] [] (sQ (sV σ 42 0 z2) 60 (fun _ => LLh5))
  refine s_iconst C dX7_copyMetTo_15 (by decide) (fun z7 tz7 => ?_)
  refine s_istore_n C dX7_copyMetTo_16 (by decide) (Nat.le_of_ble_eq_true rfl) rfl ?_
  show WP E ad 17 [some (.ref (ad 37)), some (.ref (ad 42)), some (.int z6), some (.int z7)] [] (sQ (sV σ 42 0 z2) 60 (fun _ => LLh5))
  exact L_cmt_0_2 l ad E σ C X 5000 (sQ (sV σ 42 0 z2) 60 (fun _ => LLh5)) z6 z7 (Fr.sQ (Fr.sV Fr.rf (Or.inr (by decide))) (by decide)) ⟨hX.1, hX.2.1, hX.2.2.1, hX.2.2.2.1, hX.2.2.2.2.1, hX.2.2.2.2.2.1, hX.2.2.2.2.2.2.1, hX.2.2.2.2.2.2.2.1, hX.2.2.2.2.2.2.2.2.1, hX.2.2.2.2.2.2.2.2.2.1, (by show Int32.toInt z2 ≤ 20; omega), hX.2.2.2.2.2.2.2.2.2.2.2.1, hX.2.2.2.2.2.2.2.2.2.2.2.2.1, hX.2.2.2.2.2.2.2.2.2.2.2.2.2⟩ (by omega) (by omega) (by omega)
set_option maxRecDepth 100000 in
theorem L_judge_0_2 (l : Launch) (ad : Nat → Nat) (E : Ev) (σ : Sg) (hX : IX σ.1) (C : Cx E l (rmk 0) 4 cX7_judgeOf RX7) (X : Rx E ad (some .int) (oI (fun r τ => τ = σ ∧ True)))  : ∀ (n : Nat) (a : Int32) (z : Int32), (0 ≤ a.toInt ∧ a.toInt ≤ 20) → (0 ≤ z.toInt) → (1296 - z.toInt).toNat < n → WP E ad 4 [some (.ref (ad 37)), some (.ref (ad 42)), some (.int a), some (.int z)] [] σ := by
  intro n
  induction n with
  | zero => intro a z ha h0 hm9; exact absurd hm9 (Nat.not_lt_zero _)
  | succ n ih =>
    intro a z ha h0 hm9
    have hpr := hX.pr
    have hsz := hX.sz
    have hls := hX.L2
    refine s_iload_n C dX7_judgeOf_4 rfl ?_
    refine s_aload_n C dX7_judgeOf_5 rfl ?_
    refine s_getr (k := 1) (j := 61) C y37 fw_X7_42 rfl dX7_judgeOf_6 ?_
    refine s_get (k := 2) (x := (σ.1 61 2)) C y61 fw_X7_62 rfl rfl dX7_judgeOf_9 ?_
    refine s_icmp_ge (tgt := 57) C dX7_judgeOf_12 (by decide) (fun q1 => ?_) (fun q1 => ?_)
    · refine s_iload_n C dX7_judgeOf_57 rfl ?_
      refine s_aload_n C dX7_judgeOf_58 rfl ?_
      refine s_get (k := 0) (x := (σ.1 42 0)) C y42 fw_X7_150 rfl rfl dX7_judgeOf_59 ?_
      refine s_icmp_ne (tgt := 75) C dX7_judgeOf_62 (by decide) (fun q2 => ?_) (fun q2 => ?_)
      · refine s_iload_n C dX7_judgeOf_75 rfl ?_
        exact s_iret C X dX7_judgeOf_76 ⟨rfl, trivial⟩
      · refine s_bipush C dX7_judgeOf_65 (by decide) (fun z3 tz3 => ?_)
        refine s_aload_n C dX7_judgeOf_67 rfl ?_
        refine s_get (k := 0) (x := (σ.1 42 0)) C y42 fw_X7_150 rfl rfl dX7_judgeOf_68 ?_
        refine s_iaddU C dX7_judgeOf_71 (fun z4 tz4 => ?_)
        refine s_goto (tgt := 76) C dX7_judgeOf_72 (by decide) ?_
        exact s_iret C X dX7_judgeOf_76 ⟨rfl, trivial⟩
    · refine s_iload_n C dX7_judgeOf_15 rfl ?_
      refine s_aload_n C dX7_judgeOf_16 rfl ?_
      refine s_get (k := 0) (x := (σ.1 42 0)) C y42 fw_X7_150 rfl rfl dX7_judgeOf_17 ?_
      refine s_icmp_ge (tgt := 57) C dX7_judgeOf_20 (by decide) (fun q5 => ?_) (fun q5 => ?_)
      · refine s_iload_n C dX7_judgeOf_57 rfl ?_
        refine s_aload_n C dX7_judgeOf_58 rfl ?_
        refine s_get (k := 0) (x := (σ.1 42 0)) C y42 fw_X7_150 rfl rfl dX7_judgeOf_59 ?_
        refine s_icmp_ne (tgt := 75) C dX7_judgeOf_62 (by decide) (fun q6 => ?_) (fun q6 => ?_)
        · refine s_iload_n C dX7_judgeOf_75 rfl ?_
          exact s_iret C X dX7_judgeOf_76 ⟨rfl, trivial⟩
        · refine s_bipush C dX7_judgeOf_65 (by decide) (fun z7 tz7 => ?_)
          refine s_aload_n C dX7_judgeOf_67 rfl ?_
          refine s_get (k := 0) (x := (σ.1 42 0)) C y42 fw_X7_150 rfl rfl dX7_judgeOf_68 ?_
          refine s_iaddU C dX7_judgeOf_71 (fun z8 tz8 => ?_)
          refine s_goto (tgt := 76) C dX7_judgeOf_72 (by decide) ?_
          exact s_iret C X dX7_judgeOf_76 ⟨rfl, trivial⟩
      · refine s_aload_n C dX7_judgeOf_23 rfl ?_
        refine s_getr (k := 8) (j := 49) C y37 fw_X7_28 rfl dX7_judgeOf_24 ?_
        refine s_iload_n C dX7_judgeOf_27 rfl ?_
        refine s_iald (r := (σ.1 49 z.toNatClampNeg)) C y49 (by omega) rfl dX7_judgeOf_28 ?_
        refine s_iconst C dX7_judgeOf_29 (by decide) (fun z9 tz9 => ?_)
        refine s_iand C dX7_judgeOf_30 (fun z10 tz10 => ?_)
        refine s_if_eq (tgt := 51) C dX7_judgeOf_31 (by decide) (fun q11 => ?_) (fun q11 => ?_)
        · refine s_iinc C dX7_judgeOf_51 rfl (by decide) rfl (by decide) (by omega) (fun z12 tz12 => ?_)
          show WP E ad 54 [some (.ref (ad 37)), some (.ref (ad 42)), some (.int a), some (.int z12)] [] σ
          refine s_goto (tgt := 4) C dX7_judgeOf_54 (by decide) ?_
          exact ih a z12 (by omega) (by omega) (by omega)
        · refine s_aload_n C dX7_judgeOf_34 rfl ?_
          refine s_getr (k := 1) (j := 60) C y42 fw_X7_151 rfl dX7_judgeOf_35 ?_
          refine s_iload_n C dX7_judgeOf_38 rfl ?_
          refine s_lald (r := (σ.2 60 a.toNatClampNeg)) C y60 (by omega) rfl dX7_judgeOf_39 ?_
          refine s_iload_n C dX7_judgeOf_40 rfl ?_
          refine s_i2l C dX7_judgeOf_41 (fun L13 tL13 => ?_)
          refine s_lcmp C dX7_judgeOf_42 (fun z14 tz14 => ?_)
          refine s_if_eq (tgt := 48) C dX7_judgeOf_43 (by decide) (fun q15 => ?_) (fun q15 => ?_)
          · refine s_iinc C dX7_judgeOf_48 rfl (by decide) rfl (by decide) (by omega) (fun z16 tz16 => ?_)
            show WP E ad 51 [some (.ref (ad 37)), some (.ref (ad 42)), some (.int z16), some (.int z)] [] σ
            refine s_iinc C dX7_judgeOf_51 rfl (by decide) rfl (by decide) (by omega) (fun z17 tz17 => ?_)
            show WP E ad 54 [some (.ref (ad 37)), some (.ref (ad 42)), some (.int z16), some (.int z17)] [] σ
            refine s_goto (tgt := 4) C dX7_judgeOf_54 (by decide) ?_
            exact ih z16 z17 (by omega) (by omega) (by omega)
          · refine s_iload_n C dX7_judgeOf_46 rfl ?_
            exact s_iret C X dX7_judgeOf_47 ⟨rfl, trivial⟩
set_option maxRecDepth 100000 in
theorem c_X7_judgeOf_0_2 (l : Launch) (ad : Nat → Nat) (σ : Sg) (hX : IX σ.1) : Mt l yX7_judgeOf cX7_judgeOf 4 (some .int) 0 ad σ [.ref (ad 37), .ref (ad 42)] (oI (fun r τ => τ = σ ∧ True)) := by
  refine Mt_intro (by decide +kernel) (by simp [lg_sl, Value.category]) (fun E C X => ?_)
  show WP E ad 0 [some (.ref (ad 37)), some (.ref (ad 42)), none, none] [] σ
  refine s_iconst C dX7_judgeOf_0 (by decide) (fun z1 tz1 => ?_)
  refine s_istore_n C dX7_judgeOf_1 (by decide) (Nat.le_of_ble_eq_true rfl) rfl ?_
  show WP E ad 2 [some (.ref (ad 37)), some (.ref (ad 42)), some (.int z1), none] [] σ
  refine s_iconst C dX7_judgeOf_2 (by decide) (fun z2 tz2 => ?_)
  refine s_istore_n C dX7_judgeOf_3 (by decide) (Nat.le_of_ble_eq_true rfl) rfl ?_
  show WP E ad 4 [some (.ref (ad 37)), some (.ref (ad 42)), some (.int z1), some (.int z2)] [] σ
  exact L_judge_0_2 l ad E σ hX C X 5000 z1 z2 (by omega) (by omega) (by omega)
set_option maxRecDepth 100000 in
theorem L_pstep_1 (l : Launch) (ad : Nat → Nat) (E : Ev) (σ : Sg) (hX : IX σ.1) (i : Int32) (hi : 0 ≤ i.toInt ∧ i.toInt ≤ 1295) (C : Cx E l (rmk 2) 4 cX7_passableStep RX7) (X : Rx E ad (some .int) (oI (fun r τ => τ = σ ∧ (-1 ≤ r.toInt ∧ r.toInt < (σ.1 1 0).toInt))))  : ∀ (n : Nat) (z : Int32), (0 ≤ z.toInt) → (4 - z.toInt).toNat < n → WP E ad 2 [some (.ref (ad 38)), some (.int i), some (.int z), none] [] σ := by
  intro n
  induction n with
  | zero => intro z h0 hm9; exact absurd hm9 (Nat.not_lt_zero _)
  | succ n ih =>
    intro z h0 hm9
    have hpr := hX.pr
    have hsz := hX.sz
    refine s_iload_n C dX7_passableStep_2 rfl ?_
    refine s_aload_n C dX7_passableStep_3 rfl ?_
    refine s_getr (k := 2) (j := 1) C y38 fw_X7_46 rfl dX7_passableStep_4 ?_
    refine s_get (k := 0) (x := (σ.1 1 0)) C y1 fw_X7_80 rfl rfl dX7_passableStep_7 ?_
    refine s_icmp_ge (tgt := 46) C dX7_passableStep_10 (by decide) (fun q1 => ?_) (fun q1 => ?_)
    · refine s_iconst C dX7_passableStep_46 (by decide) (fun z2 tz2 => ?_)
      exact s_iret C X dX7_passableStep_47 ⟨rfl, by omega⟩
    · refine s_aload_n C dX7_passableStep_13 rfl ?_
      refine s_getr (k := 1) (j := 61) C y38 fw_X7_42 rfl dX7_passableStep_14 ?_
      refine s_iload_n C dX7_passableStep_17 rfl ?_
      refine s_iload_n C dX7_passableStep_18 rfl ?_
      refine s_callVI (st := []) C (c_X2_successor l ad σ i z hX (by omega) (by omega)) cv_X7_85 y61 rfl rfl rfl ⟨by decide, by decide⟩ (Nat.le_of_ble_eq_true rfl) dX7_passableStep_19 ?_
      intro r3 τ4 h5
      obtain ⟨eh5, h5⟩ := h5; replace eh5 := eh5.symm; subst eh5
      refine s_istore_n C dX7_passableStep_22 (by decide) (Nat.le_of_ble_eq_true rfl) rfl ?_
      show WP E ad 23 [some (.ref (ad 38)), some (.int i), some (.int z), some (.int r3)] [] σ
      refine s_iload_n C dX7_passableStep_23 rfl ?_
      refine s_if_lt (tgt := 40) C dX7_passableStep_24 (by decide) (fun q6 => ?_) (fun q6 => ?_)
      · refine s_iinc C dX7_passableStep_40 rfl (by decide) rfl (by decide) (by omega) (fun z7 tz7 => ?_)
        show WP E ad 43 [some (.ref (ad 38)), some (.int i), some (.int z7), some (.int r3)] [] σ
        refine s_goto (tgt := 2) C dX7_passableStep_43 (by decide) ?_
        refine wp_le (lv' := [some (.ref (ad 38)), some (.int i), some (.int z7), none]) ⟨rfl, ⟨rfl, ⟨rfl, trivial⟩⟩⟩ ?_
        exact ih z7 (by omega) (by omega)
      · refine s_aload_n C dX7_passableStep_27 rfl ?_
        refine s_getr (k := 8) (j := 52) C y38 fw_X7_28 rfl dX7_passableStep_28 ?_
        refine s_iload_n C dX7_passableStep_31 rfl ?_
        refine s_iald (r := (σ.1 52 r3.toNatClampNeg)) C y52 (by omega) rfl dX7_passableStep_32 ?_
        refine s_iconst C dX7_passableStep_33 (by decide) (fun z8 tz8 => ?_)
        refine s_iand C dX7_passableStep_34 (fun z9 tz9 => ?_)
        refine s_if_eq (tgt := 40) C dX7_passableStep_35 (by decide) (fun q10 => ?_) (fun q10 => ?_)
        · refine s_iinc C dX7_passableStep_40 rfl (by decide) rfl (by decide) (by omega) (fun z11 tz11 => ?_)
          show WP E ad 43 [some (.ref (ad 38)), some (.int i), some (.int z11), some (.int r3)] [] σ
          refine s_goto (tgt := 2) C dX7_passableStep_43 (by decide) ?_
          refine wp_le (lv' := [some (.ref (ad 38)), some (.int i), some (.int z11), none]) ⟨rfl, ⟨rfl, ⟨rfl, trivial⟩⟩⟩ ?_
          exact ih z11 (by omega) (by omega)
        · refine s_iload_n C dX7_passableStep_38 rfl ?_
          exact s_iret C X dX7_passableStep_39 ⟨rfl, by omega⟩
set_option maxRecDepth 100000 in
theorem c_X7_passableStep_1 (l : Launch) (ad : Nat → Nat) (σ : Sg) (i : Int32) (hX : IX σ.1) (hi : 0 ≤ i.toInt ∧ i.toInt ≤ 1295) : Mt l yX7_passableStep cX7_passableStep 4 (some .int) 2 ad σ [.ref (ad 38), .int i] (oI (fun r τ => τ = σ ∧ (-1 ≤ r.toInt ∧ r.toInt < (σ.1 1 0).toInt))) := by
  have hpr := hX.pr
  have hsz := hX.sz
  refine Mt_intro (by decide +kernel) (by simp [lg_sl, Value.category]) (fun E C X => ?_)
  show WP E ad 0 [some (.ref (ad 38)), some (.int i), none, none] [] σ
  refine s_iconst C dX7_passableStep_0 (by decide) (fun z1 tz1 => ?_)
  refine s_istore_n C dX7_passableStep_1 (by decide) (Nat.le_of_ble_eq_true rfl) rfl ?_
  show WP E ad 2 [some (.ref (ad 38)), some (.int i), some (.int z1), none] [] σ
  exact L_pstep_1 l ad E σ hX i hi C X 100 z1 (by omega) (by omega)
set_option maxRecDepth 100000 in
theorem L_flagMet_1 (l : Launch) (ad : Nat → Nat) (E : Ev) (σ : Sg) (C : Cx E l (rmk 4) 3 cX7_flagMet RX7) (X : Rx E ad none (oV (fun τ => IX τ.1 ∧ Fr [52, 53, 54] [(38, 3), (38, 4), (38, 5), (38, 6), (38, 7)] σ τ ∧ True)))  : ∀ (n : Nat) (τ : Sg) (z : Int32), (Fr [52, 53, 54] [(38, 3), (38, 4), (38, 5), (38, 6), (38, 7)] σ τ) → (IX τ.1) → (0 ≤ z.toInt) → (1296 - z.toInt).toNat < n → WP E ad 7 [some (.ref (ad 38)), some (.int z), none] [] τ := by
  intro n
  induction n with
  | zero => intro τ z kF hXτ h0 hm9; exact absurd hm9 (Nat.not_lt_zero _)
  | succ n ih =>
    intro τ z kF hXτ h0 hm9
    have hpr := hXτ.pr
    have hsz := hXτ.sz
    refine s_iload_n C dX7_flagMet_7 rfl ?_
    refine s_aload_n C dX7_flagMet_8 rfl ?_
    refine s_getr (k := 1) (j := 61) C y38 fw_X7_42 rfl dX7_flagMet_9 ?_
    refine s_get (k := 2) (x := (τ.1 61 2)) C y61 fw_X7_62 rfl rfl dX7_flagMet_12 ?_
    refine s_icmp_ge (tgt := 82) C dX7_flagMet_15 (by decide) (fun q1 => ?_) (fun q1 => ?_)
    · exact s_vret C X dX7_flagMet_82 ⟨hXτ, kF, trivial⟩
    · refine s_aload_n C dX7_flagMet_18 rfl ?_
      refine s_getr (k := 0) (j := 32) C y38 fw_X7_38 rfl dX7_flagMet_19 ?_
      refine s_aload_n C dX7_flagMet_22 rfl ?_
      refine s_getr (k := 2) (j := 1) C y38 fw_X7_46 rfl dX7_flagMet_23 ?_
      refine s_aload_n C dX7_flagMet_26 rfl ?_
      refine s_getr (k := 1) (j := 61) C y38 fw_X7_42 rfl dX7_flagMet_27 ?_
      refine s_getr (k := 3) (j := 62) C y61 fw_X7_67 rfl dX7_flagMet_30 ?_
      refine s_iload_n C dX7_flagMet_33 rfl ?_
      refine s_iald (r := (τ.1 62 z.toNatClampNeg)) C y62 (by omega) rfl dX7_flagMet_34 ?_
      refine s_aload_n C dX7_flagMet_35 rfl ?_
      refine s_getr (k := 10) (j := 54) C y38 fw_X7_35 rfl dX7_flagMet_36 ?_
      refine s_callVI (st := []) C (c_X0_isMet_1 l ad τ ((τ.1 62 z.toNatClampNeg)) hXτ (hXτ.rw _)) cv_X7_70 y32 rfl rfl rfl ⟨by decide, by decide⟩ (Nat.le_of_ble_eq_true rfl) dX7_flagMet_39 ?_
      intro r2 τ3 h4
      have bh4 := h4.2
      have hXτ3 : IX τ3.1 := IX.keep hXτ h4.1 (by decide) (by decide) (by decide)
      refine s_istore_n C dX7_flagMet_42 (by decide) (Nat.le_of_ble_eq_true rfl) rfl ?_
      show WP E ad 43 [some (.ref (ad 38)), some (.int z), some (.int r2)] [] τ3
      refine s_aload_n C dX7_flagMet_43 rfl ?_
      refine s_getr (k := 8) (j := 52) C y38 fw_X7_28 rfl dX7_flagMet_44 ?_
      refine s_iload_n C dX7_flagMet_47 rfl ?_
      refine s_iload_n C dX7_flagMet_48 rfl ?_
      refine s_if_eq (tgt := 56) C dX7_flagMet_49 (by decide) (fun q5 => ?_) (fun q5 => ?_)
      · refine s_iconst C dX7_flagMet_56 (by decide) (fun z6 tz6 => ?_)
        refine s_iast C y52 (by omega) dX7_flagMet_57 ?_
        refine s_aload_n C dX7_flagMet_58 rfl ?_
        refine s_dup C dX7_flagMet_59 rfl ?_
        refine s_get (k := 6) (x := (τ3.1 38 6)) C y38 fw_X7_21 rfl rfl dX7_flagMet_60 ?_
        refine s_iload_n C dX7_flagMet_63 rfl ?_
        refine s_if_eq (tgt := 71) C dX7_flagMet_64 (by decide) (fun q7 => ?_) (fun q7 => ?_)
        · refine s_iconst C dX7_flagMet_71 (by decide) (fun z8 tz8 => ?_)
          refine s_iaddU C dX7_flagMet_72 (fun z9 tz9 => ?_)
          refine s_put (k := 6) C y38 fw_X7_21 fp_6_6 rfl dX7_flagMet_73 ?_
          refine s_iinc C dX7_flagMet_76 rfl (by decide) rfl (by decide) (by omega) (fun z10 tz10 => ?_)
          show WP E ad 79 [some (.ref (ad 38)), some (.int z10), some (.int r2)] [] (sV (sV τ3 52 z.toNatClampNeg z6) 38 6 z9)
          refine s_goto (tgt := 7) C dX7_flagMet_79 (by decide) ?_
          refine wp_le (lv' := [some (.ref (ad 38)), some (.int z10), none]) ⟨rfl, ⟨rfl, trivial⟩⟩ ?_
          exact ih (sV (sV τ3 52 z.toNatClampNeg z6) 38 6 z9) z10 (Fr.sV (Fr.sV (Fr.tr (Fr.tr Fr.rf (Fr.mo kF (by decide) (by decide))) (Fr.mo h4.1 (by decide) (by decide))) (Or.inl (by decide))) (Or.inr (by decide))) hXτ3 (by omega) (by omega)
        · refine s_iconst C dX7_flagMet_67 (by decide) (fun z11 tz11 => ?_)
          refine s_goto (tgt := 72) C dX7_flagMet_68 (by decide) ?_
          refine s_iaddU C dX7_flagMet_72 (fun z12 tz12 => ?_)
          refine s_put (k := 6) C y38 fw_X7_21 fp_6_6 rfl dX7_flagMet_73 ?_
          refine s_iinc C dX7_flagMet_76 rfl (by decide) rfl (by decide) (by omega) (fun z13 tz13 => ?_)
          show WP E ad 79 [some (.ref (ad 38)), some (.int z13), some (.int r2)] [] (sV (sV τ3 52 z.toNatClampNeg z6) 38 6 z12)
          refine s_goto (tgt := 7) C dX7_flagMet_79 (by decide) ?_
          refine wp_le (lv' := [some (.ref (ad 38)), some (.int z13), none]) ⟨rfl, ⟨rfl, trivial⟩⟩ ?_
          exact ih (sV (sV τ3 52 z.toNatClampNeg z6) 38 6 z12) z13 (Fr.sV (Fr.sV (Fr.tr (Fr.tr Fr.rf (Fr.mo kF (by decide) (by decide))) (Fr.mo h4.1 (by decide) (by decide))) (Or.inl (by decide))) (Or.inr (by decide))) hXτ3 (by omega) (by omega)
      · refine s_iconst C dX7_flagMet_52 (by decide) (fun z14 tz14 => ?_)
        refine s_goto (tgt := 57) C dX7_flagMet_53 (by decide) ?_
        refine s_iast C y52 (by omega) dX7_flagMet_57 ?_
        refine s_aload_n C dX7_flagMet_58 rfl ?_
        refine s_dup C dX7_flagMet_59 rfl ?_
        refine s_get (k := 6) (x := (τ3.1 38 6)) C y38 fw_X7_21 rfl rfl dX7_flagMet_60 ?_
        refine s_iload_n C dX7_flagMet_63 rfl ?_
        refine s_if_eq (tgt := 71) C dX7_flagMet_64 (by decide) (fun q15 => ?_) (fun q15 => ?_)
        · refine s_iconst C dX7_flagMet_71 (by decide) (fun z16 tz16 => ?_)
          refine s_iaddU C dX7_flagMet_72 (fun z17 tz17 => ?_)
          refine s_put (k := 6) C y38 fw_X7_21 fp_6_6 rfl dX7_flagMet_73 ?_
          refine s_iinc C dX7_flagMet_76 rfl (by decide) rfl (by decide) (by omega) (fun z18 tz18 => ?_)
          show WP E ad 79 [some (.ref (ad 38)), some (.int z18), some (.int r2)] [] (sV (sV τ3 52 z.toNatClampNeg z14) 38 6 z17)
          refine s_goto (tgt := 7) C dX7_flagMet_79 (by decide) ?_
          refine wp_le (lv' := [some (.ref (ad 38)), some (.int z18), none]) ⟨rfl, ⟨rfl, trivial⟩⟩ ?_
          exact ih (sV (sV τ3 52 z.toNatClampNeg z14) 38 6 z17) z18 (Fr.sV (Fr.sV (Fr.tr (Fr.tr Fr.rf (Fr.mo kF (by decide) (by decide))) (Fr.mo h4.1 (by decide) (by decide))) (Or.inl (by decide))) (Or.inr (by decide))) hXτ3 (by omega) (by omega)
        · refine s_iconst C dX7_flagMet_67 (by decide) (fun z19 tz19 => ?_)
          refine s_goto (tgt := 72) C dX7_flagMet_68 (by decide) ?_
          refine s_iaddU C dX7_flagMet_72 (fun z20 tz20 => ?_)
          refine s_put (k := 6) C y38 fw_X7_21 fp_6_6 rfl dX7_flagMet_73 ?_
          refine s_iinc C dX7_flagMet_76 rfl (by decide) rfl (by decide) (by omega) (fun z21 tz21 => ?_)
          show WP E ad 79 [some (.ref (ad 38)), some (.int z21), some (.int r2)] [] (sV (sV τ3 52 z.toNatClampNeg z14) 38 6 z20)
          refine s_goto (tgt := 7) C dX7_flagMet_79 (by decide) ?_
          refine wp_le (lv' := [some (.ref (ad 38)), some (.int z21), none]) ⟨rfl, ⟨rfl, trivial⟩⟩ ?_
          exact ih (sV (sV τ3 52 z.toNatClampNeg z14) 38 6 z20) z21 (Fr.sV (Fr.sV (Fr.tr (Fr.tr Fr.rf (Fr.mo kF (by decide) (by decide))) (Fr.mo h4.1 (by decide) (by decide))) (Or.inl (by decide))) (Or.inr (by decide))) hXτ3 (by omega) (by omega)
set_option maxRecDepth 100000 in
theorem c_X7_flagMet_1 (l : Launch) (ad : Nat → Nat) (σ : Sg)  (hX : IX σ.1)  : Mt l yX7_flagMet cX7_flagMet 3 none 4 ad σ [.ref (ad 38)] (oV (fun τ => IX τ.1 ∧ Fr [52, 53, 54] [(38, 3), (38, 4), (38, 5), (38, 6), (38, 7)] σ τ ∧ True)) := by
  have hpr := hX.pr
  have hsz := hX.sz
  refine Mt_intro (by decide +kernel) (by simp [lg_sl, Value.category]) (fun E C X => ?_)
  show WP E ad 0 [some (.ref (ad 38)), none, none] [] σ
  refine s_aload_n C dX7_flagMet_0 rfl ?_
  refine s_iconst C dX7_flagMet_1 (by decide) (fun z1 tz1 => ?_)
  refine s_put (k := 6) C y38 fw_X7_21 fp_6_6 rfl dX7_flagMet_2 ?_
  refine s_iconst C dX7_flagMet_5 (by decide) (fun z2 tz2 => ?_)
  refine s_istore_n C dX7_flagMet_6 (by decide) (Nat.le_of_ble_eq_true rfl) rfl ?_
  show WP E ad 7 [some (.ref (ad 38)), some (.int z2), none] [] (sV σ 38 6 z1)
  exact L_flagMet_1 l ad E σ  C X 5000 (sV σ 38 6 z1) z2 (Fr.sV Fr.rf (Or.inr (by decide))) hX (by omega) (by omega)
set_option maxRecDepth 100000 in
theorem L_flagP_1 (l : Launch) (ad : Nat → Nat) (E : Ev) (σ : Sg) (b : Int32) (C : Cx E l (rmk 3) 3 cX7_flagPassable RX7) (X : Rx E ad none (oV (fun τ => IX τ.1 ∧ Fr [52, 53, 54] [(38, 3), (38, 4), (38, 5), (38, 6), (38, 7)] σ τ ∧ True)))  : ∀ (n : Nat) (τ : Sg) (z : Int32), (Fr [52, 53, 54] [(38, 3), (38, 4), (38, 5), (38, 6), (38, 7)] σ τ) → (IX τ.1) → (-1 ≤ z.toInt ∧ z.toInt ≤ 1295) → (z.toInt + 1).toNat < n → WP E ad 12 [some (.ref (ad 38)), some (.int b), some (.int z)] [] τ := by
  intro n
  induction n with
  | zero => intro τ z kF hXτ h0 hm9; exact absurd hm9 (Nat.not_lt_zero _)
  | succ n ih =>
    intro τ z kF hXτ h0 hm9
    have hpr := hXτ.pr
    have hsz := hXτ.sz
    refine s_iload_n C dX7_flagPassable_12 rfl ?_
    refine s_if_lt (tgt := 56) C dX7_flagPassable_13 (by decide) (fun q1 => ?_) (fun q1 => ?_)
    · exact s_vret C X dX7_flagPassable_56 ⟨hXτ, kF, trivial⟩
    · refine s_aload_n C dX7_flagPassable_16 rfl ?_
      refine s_getr (k := 8) (j := 52) C y38 fw_X7_28 rfl dX7_flagPassable_17 ?_
      refine s_iload_n C dX7_flagPassable_20 rfl ?_
      refine s_iald (r := (τ.1 52 z.toNatClampNeg)) C y52 (by omega) rfl dX7_flagPassable_21 ?_
      refine s_iconst C dX7_flagPassable_22 (by decide) (fun z2 tz2 => ?_)
      refine s_iand C dX7_flagPassable_23 (fun z3 tz3 => ?_)
      refine s_if_ne (tgt := 50) C dX7_flagPassable_24 (by decide) (fun q4 => ?_) (fun q4 => ?_)
      · refine s_iinc C dX7_flagPassable_50 rfl (by decide) rfl (by decide) (by omega) (fun z5 tz5 => ?_)
        show WP E ad 53 [some (.ref (ad 38)), some (.int b), some (.int z5)] [] τ
        refine s_goto (tgt := 12) C dX7_flagPassable_53 (by decide) ?_
        exact ih τ z5 (Fr.tr Fr.rf (Fr.mo kF (by decide) (by decide))) hXτ (by omega) (by omega)
      · refine s_iload_n C dX7_flagPassable_27 rfl ?_
        refine s_iload_n C dX7_flagPassable_28 rfl ?_
        refine s_icmp_eq (tgt := 40) C dX7_flagPassable_29 (by decide) (fun q6 => ?_) (fun q6 => ?_)
        · refine s_aload_n C dX7_flagPassable_40 rfl ?_
          refine s_getr (k := 8) (j := 52) C y38 fw_X7_28 rfl dX7_flagPassable_41 ?_
          refine s_iload_n C dX7_flagPassable_44 rfl ?_
          refine s_dup2 C dX7_flagPassable_45 rfl rfl ?_
          refine s_iald (r := (τ.1 52 z.toNatClampNeg)) C y52 (by omega) rfl dX7_flagPassable_46 ?_
          refine s_iconst C dX7_flagPassable_47 (by decide) (fun z7 tz7 => ?_)
          refine s_ior C dX7_flagPassable_48 (fun z8 tz8 => ?_)
          refine s_iast C y52 (by omega) dX7_flagPassable_49 ?_
          refine s_iinc C dX7_flagPassable_50 rfl (by decide) rfl (by decide) (by omega) (fun z9 tz9 => ?_)
          show WP E ad 53 [some (.ref (ad 38)), some (.int b), some (.int z9)] [] (sV τ 52 z.toNatClampNeg z8)
          refine s_goto (tgt := 12) C dX7_flagPassable_53 (by decide) ?_
          exact ih (sV τ 52 z.toNatClampNeg z8) z9 (Fr.sV (Fr.tr Fr.rf (Fr.mo kF (by decide) (by decide))) (Or.inl (by decide))) hXτ (by omega) (by omega)
        · refine s_aload_n C dX7_flagPassable_32 rfl ?_
          refine s_iload_n C dX7_flagPassable_33 rfl ?_
          refine s_callVI (st := []) C (c_X7_passableStep_1 l ad τ z hXτ (by omega)) cv_X7_76 y38 rfl rfl rfl ⟨by decide, by decide⟩ (Nat.le_of_ble_eq_true rfl) dX7_flagPassable_34 ?_
          intro r10 τ11 h12
          obtain ⟨eh12, h12⟩ := h12; replace eh12 := eh12.symm; subst eh12
          refine s_if_lt (tgt := 50) C dX7_flagPassable_37 (by decide) (fun q13 => ?_) (fun q13 => ?_)
          · refine s_iinc C dX7_flagPassable_50 rfl (by decide) rfl (by decide) (by omega) (fun z14 tz14 => ?_)
            show WP E ad 53 [some (.ref (ad 38)), some (.int b), some (.int z14)] [] τ
            refine s_goto (tgt := 12) C dX7_flagPassable_53 (by decide) ?_
            exact ih τ z14 (Fr.tr Fr.rf (Fr.mo kF (by decide) (by decide))) hXτ (by omega) (by omega)
          · refine s_aload_n C dX7_flagPassable_40 rfl ?_
            refine s_getr (k := 8) (j := 52) C y38 fw_X7_28 rfl dX7_flagPassable_41 ?_
            refine s_iload_n C dX7_flagPassable_44 rfl ?_
            refine s_dup2 C dX7_flagPassable_45 rfl rfl ?_
            refine s_iald (r := (τ.1 52 z.toNatClampNeg)) C y52 (by omega) rfl dX7_flagPassable_46 ?_
            refine s_iconst C dX7_flagPassable_47 (by decide) (fun z15 tz15 => ?_)
            refine s_ior C dX7_flagPassable_48 (fun z16 tz16 => ?_)
            refine s_iast C y52 (by omega) dX7_flagPassable_49 ?_
            refine s_iinc C dX7_flagPassable_50 rfl (by decide) rfl (by decide) (by omega) (fun z17 tz17 => ?_)
            show WP E ad 53 [some (.ref (ad 38)), some (.int b), some (.int z17)] [] (sV τ 52 z.toNatClampNeg z16)
            refine s_goto (tgt := 12) C dX7_flagPassable_53 (by decide) ?_
            exact ih (sV τ 52 z.toNatClampNeg z16) z17 (Fr.sV (Fr.tr Fr.rf (Fr.mo kF (by decide) (by decide))) (Or.inl (by decide))) hXτ (by omega) (by omega)
set_option maxRecDepth 100000 in
theorem c_X7_flagPassable_1 (l : Launch) (ad : Nat → Nat) (σ : Sg)  (hX : IX σ.1)  : Mt l yX7_flagPassable cX7_flagPassable 3 none 3 ad σ [.ref (ad 38)] (oV (fun τ => IX τ.1 ∧ Fr [52, 53, 54] [(38, 3), (38, 4), (38, 5), (38, 6), (38, 7)] σ τ ∧ True)) := by
  have hpr := hX.pr
  have hsz := hX.sz
  refine Mt_intro (by decide +kernel) (by simp [lg_sl, Value.category]) (fun E C X => ?_)
  show WP E ad 0 [some (.ref (ad 38)), none, none] [] σ
  refine s_aload_n C dX7_flagPassable_0 rfl ?_
  refine s_getr (k := 1) (j := 61) C y38 fw_X7_42 rfl dX7_flagPassable_1 ?_
  refine s_get (k := 2) (x := (σ.1 61 2)) C y61 fw_X7_62 rfl rfl dX7_flagPassable_4 ?_
  refine s_iconst C dX7_flagPassable_7 (by decide) (fun z1 tz1 => ?_)
  refine s_isub C dX7_flagPassable_8 (by omega) (fun z2 tz2 => ?_)
  refine s_istore_n C dX7_flagPassable_9 (by decide) (Nat.le_of_ble_eq_true rfl) rfl ?_
  show WP E ad 10 [some (.ref (ad 38)), some (.int z2), none] [] σ
  refine s_iload_n C dX7_flagPassable_10 rfl ?_
  refine s_istore_n C dX7_flagPassable_11 (by decide) (Nat.le_of_ble_eq_true rfl) rfl ?_
  show WP E ad 12 [some (.ref (ad 38)), some (.int z2), some (.int z2)] [] σ
  exact L_flagP_1 l ad E σ z2 C X 5000 σ z2 Fr.rf hX (by omega) (by omega)
set_option maxRecDepth 100000 in
theorem L_gather_1 (l : Launch) (ad : Nat → Nat) (E : Ev) (σ : Sg) (a : Int32) (hg : GR a) (C : Cx E l (rmk 3) 4 cX7_gather RX7) (X : Rx E ad none (oV (fun τ => IX τ.1 ∧ Fr [52, 53, 54] [(38, 3), (38, 4), (38, 5), (38, 6), (38, 7)] σ τ ∧ True)))  : ∀ (n : Nat) (τ : Sg) (z : Int32), (Fr [52, 53, 54] [(38, 3), (38, 4), (38, 5), (38, 6), (38, 7)] σ τ) → (IX τ.1) → (0 ≤ z.toInt) → (4 - z.toInt).toNat < n → WP E ad 2 [some (.ref (ad 38)), some (.int a), some (.int z), none] [] τ := by
  intro n
  induction n with
  | zero => intro τ z kF hXτ h0 hm9; exact absurd hm9 (Nat.not_lt_zero _)
  | succ n ih =>
    intro τ z kF hXτ h0 hm9
    have hpr := hXτ.pr
    have hsz := hXτ.sz
    refine s_iload_n C dX7_gather_2 rfl ?_
    refine s_aload_n C dX7_gather_3 rfl ?_
    refine s_getr (k := 2) (j := 1) C y38 fw_X7_46 rfl dX7_gather_4 ?_
    refine s_get (k := 0) (x := (τ.1 1 0)) C y1 fw_X7_80 rfl rfl dX7_gather_7 ?_
    refine s_icmp_ge (tgt := 53) C dX7_gather_10 (by decide) (fun q1 => ?_) (fun q1 => ?_)
    · exact s_vret C X dX7_gather_53 ⟨hXτ, kF, trivial⟩
    · refine s_iload_n C dX7_gather_13 rfl ?_
      refine s_bipush C dX7_gather_14 (by decide) (fun z2 tz2 => ?_)
      refine s_imulR C tz2 dX7_gather_16 (by omega) (fun z3 tz3 => ?_)
      refine s_iload_n C dX7_gather_17 rfl ?_
      refine s_aload_n C dX7_gather_18 rfl ?_
      refine s_getr (k := 2) (j := 1) C y38 fw_X7_46 rfl dX7_gather_19 ?_
      refine s_iload_n C dX7_gather_22 rfl ?_
      refine s_callVI (st := [.int a, .int z3]) C (c_X5_placeOf l ad τ z (by omega) (by omega)) cv_X7_102 y1 rfl rfl rfl ⟨by decide, by decide⟩ (Nat.le_of_ble_eq_true rfl) dX7_gather_23 ?_
      intro r4 τ5 h6
      obtain ⟨eh6, h6⟩ := h6; replace eh6 := eh6.symm; subst eh6
      refine s_callSI (st := [.int z3]) C (c_X4_at l ad τ a r4 ) cv_X7_105 rfl rfl ⟨by decide, by decide⟩ (Nat.le_of_ble_eq_true rfl) dX7_gather_26 ?_
      intro r7 τ8 h9
      obtain ⟨eh9, h9⟩ := h9; replace eh9 := eh9.symm; subst eh9
      have gh9 : r7.toInt ≤ 5 := by rw [h9.1]; exact GR.at5 hg (by omega)
      refine s_iadd C dX7_gather_29 (by omega) (fun z10 tz10 => ?_)
      refine s_istore_n C dX7_gather_30 (by decide) (Nat.le_of_ble_eq_true rfl) rfl ?_
      show WP E ad 31 [some (.ref (ad 38)), some (.int a), some (.int z), some (.int z10)] [] τ
      refine s_aload_n C dX7_gather_31 rfl ?_
      refine s_getr (k := 9) (j := 53) C y38 fw_X7_32 rfl dX7_gather_32 ?_
      refine s_iload_n C dX7_gather_35 rfl ?_
      refine s_aload_n C dX7_gather_36 rfl ?_
      refine s_getr (k := 9) (j := 53) C y38 fw_X7_32 rfl dX7_gather_37 ?_
      refine s_iload_n C dX7_gather_40 rfl ?_
      refine s_iald (r := (τ.1 53 z10.toNatClampNeg)) C y53 (by omega) rfl dX7_gather_41 ?_
      refine s_iload_n C dX7_gather_42 rfl ?_
      refine s_callSI (st := [.int z10, .ref (ad 53)]) C (c_X7_meetOf l ad τ ((τ.1 53 z10.toNatClampNeg)) a ) cv_X7_99 rfl rfl ⟨by decide, by decide⟩ (Nat.le_of_ble_eq_true rfl) dX7_gather_43 ?_
      intro r11 τ12 h13
      obtain ⟨eh13, h13⟩ := h13; replace eh13 := eh13.symm; subst eh13
      refine s_iast C y53 (by omega) dX7_gather_46 ?_
      refine s_iinc C dX7_gather_47 rfl (by decide) rfl (by decide) (by omega) (fun z14 tz14 => ?_)
      show WP E ad 50 [some (.ref (ad 38)), some (.int a), some (.int z14), some (.int z10)] [] (sV τ 53 z10.toNatClampNeg r11)
      refine s_goto (tgt := 2) C dX7_gather_50 (by decide) ?_
      refine wp_le (lv' := [some (.ref (ad 38)), some (.int a), some (.int z14), none]) ⟨rfl, ⟨rfl, ⟨rfl, trivial⟩⟩⟩ ?_
      exact ih (sV τ 53 z10.toNatClampNeg r11) z14 (Fr.sV (Fr.tr Fr.rf (Fr.mo kF (by decide) (by decide))) (Or.inl (by decide))) hXτ (by omega) (by omega)
set_option maxRecDepth 100000 in
theorem c_X7_gather_1 (l : Launch) (ad : Nat → Nat) (σ : Sg) (a : Int32) (hX : IX σ.1) (hg : GR a) : Mt l yX7_gather cX7_gather 4 none 3 ad σ [.ref (ad 38), .int a] (oV (fun τ => IX τ.1 ∧ Fr [52, 53, 54] [(38, 3), (38, 4), (38, 5), (38, 6), (38, 7)] σ τ ∧ True)) := by
  have hpr := hX.pr
  have hsz := hX.sz
  refine Mt_intro (by decide +kernel) (by simp [lg_sl, Value.category]) (fun E C X => ?_)
  show WP E ad 0 [some (.ref (ad 38)), some (.int a), none, none] [] σ
  refine s_iconst C dX7_gather_0 (by decide) (fun z1 tz1 => ?_)
  refine s_istore_n C dX7_gather_1 (by decide) (Nat.le_of_ble_eq_true rfl) rfl ?_
  show WP E ad 2 [some (.ref (ad 38)), some (.int a), some (.int z1), none] [] σ
  exact L_gather_1 l ad E σ a hg C X 100 σ z1 Fr.rf hX (by omega) (by omega)
set_option maxRecDepth 100000 in
theorem L_glr66_1 (l : Launch) (ad : Nat → Nat) (E : Ev) (σ : Sg) (p : Int32) (hp : 0 ≤ p.toInt ∧ p.toInt ≤ 3) (C : Cx E l (rmk 4) 4 cX7_gatherLeastRows RX7) (X : Rx E ad none (oV (fun τ => IX τ.1 ∧ Fr [52, 53, 54] [(38, 3), (38, 4), (38, 5), (38, 6), (38, 7)] σ τ ∧ True))) (K : ∀ (υ : Sg) (p2 : Int32), Fr [52, 53, 54] [(38, 3), (38, 4), (38, 5), (38, 6), (38, 7)] σ υ → IX υ.1 → p2.toInt = p.toInt + 1 → WP E ad 53 [some (.ref (ad 38)), some (.int p2), none, none] [] υ) : ∀ (n : Nat) (τ : Sg) (z : Int32), (Fr [52, 53, 54] [(38, 3), (38, 4), (38, 5), (38, 6), (38, 7)] σ τ) → (IX τ.1) → (-1 ≤ z.toInt ∧ z.toInt ≤ 4) → (z.toInt + 1).toNat < n → WP E ad 66 [some (.ref (ad 38)), some (.int p), some (.int z), none] [] τ := by
  intro n
  induction n with
  | zero => intro τ z kF hXτ h0 hm9; exact absurd hm9 (Nat.not_lt_zero _)
  | succ n ih =>
    intro τ z kF hXτ h0 hm9
    refine s_iload_n C dX7_gatherLeastRows_66 rfl ?_
    refine s_if_lt (tgt := 106) C dX7_gatherLeastRows_67 (by decide) (fun q1 => ?_) (fun q1 => ?_)
    · refine s_iinc C dX7_gatherLeastRows_106 rfl (by decide) rfl (by decide) (by omega) (fun z2 tz2 => ?_)
      show WP E ad 109 [some (.ref (ad 38)), some (.int z2), some (.int z), none] [] τ
      refine s_goto (tgt := 53) C dX7_gatherLeastRows_109 (by decide) ?_
      refine wp_le (lv' := [some (.ref (ad 38)), some (.int z2), none, none]) ⟨rfl, ⟨rfl, trivial⟩⟩ ?_
      exact K τ z2 (Fr.tr Fr.rf (Fr.mo kF (by decide) (by decide))) hXτ (by omega)
    · refine s_iload_n C dX7_gatherLeastRows_70 rfl ?_
      refine s_bipush C dX7_gatherLeastRows_71 (by decide) (fun z3 tz3 => ?_)
      refine s_imulR C tz3 dX7_gatherLeastRows_73 (by omega) (fun z4 tz4 => ?_)
      refine s_iload_n C dX7_gatherLeastRows_74 rfl ?_
      refine s_iadd C dX7_gatherLeastRows_75 (by omega) (fun z5 tz5 => ?_)
      refine s_istore_n C dX7_gatherLeastRows_76 (by decide) (Nat.le_of_ble_eq_true rfl) rfl ?_
      show WP E ad 77 [some (.ref (ad 38)), some (.int p), some (.int z), some (.int z5)] [] τ
      refine s_aload_n C dX7_gatherLeastRows_77 rfl ?_
      refine s_getr (k := 9) (j := 53) C y38 fw_X7_32 rfl dX7_gatherLeastRows_78 ?_
      refine s_iload_n C dX7_gatherLeastRows_81 rfl ?_
      refine s_aload_n C dX7_gatherLeastRows_82 rfl ?_
      refine s_getr (k := 9) (j := 53) C y38 fw_X7_32 rfl dX7_gatherLeastRows_83 ?_
      refine s_iload_n C dX7_gatherLeastRows_86 rfl ?_
      refine s_iald (r := (τ.1 53 z5.toNatClampNeg)) C y53 (by omega) rfl dX7_gatherLeastRows_87 ?_
      refine s_aload_n C dX7_gatherLeastRows_88 rfl ?_
      refine s_getr (k := 9) (j := 53) C y38 fw_X7_32 rfl dX7_gatherLeastRows_89 ?_
      refine s_iload_n C dX7_gatherLeastRows_92 rfl ?_
      refine s_iconst C dX7_gatherLeastRows_93 (by decide) (fun z6 tz6 => ?_)
      refine s_iadd C dX7_gatherLeastRows_94 (by omega) (fun z7 tz7 => ?_)
      refine s_iald (r := (τ.1 53 z7.toNatClampNeg)) C y53 (by omega) rfl dX7_gatherLeastRows_95 ?_
      refine s_callSI (st := [.int z5, .ref (ad 53)]) C (c_X7_meetOf l ad τ ((τ.1 53 z5.toNatClampNeg)) ((τ.1 53 z7.toNatClampNeg)) ) cv_X7_99 rfl rfl ⟨by decide, by decide⟩ (Nat.le_of_ble_eq_true rfl) dX7_gatherLeastRows_96 ?_
      intro r8 τ9 h10
      obtain ⟨eh10, h10⟩ := h10; replace eh10 := eh10.symm; subst eh10
      refine s_iast C y53 (by omega) dX7_gatherLeastRows_99 ?_
      refine s_iinc C dX7_gatherLeastRows_100 rfl (by decide) rfl (by decide) (by omega) (fun z11 tz11 => ?_)
      show WP E ad 103 [some (.ref (ad 38)), some (.int p), some (.int z11), some (.int z5)] [] (sV τ 53 z5.toNatClampNeg r8)
      refine s_goto (tgt := 66) C dX7_gatherLeastRows_103 (by decide) ?_
      refine wp_le (lv' := [some (.ref (ad 38)), some (.int p), some (.int z11), none]) ⟨rfl, ⟨rfl, ⟨rfl, trivial⟩⟩⟩ ?_
      exact ih (sV τ 53 z5.toNatClampNeg r8) z11 (Fr.sV (Fr.tr Fr.rf (Fr.mo kF (by decide) (by decide))) (Or.inl (by decide))) hXτ (by omega) (by omega)
set_option maxRecDepth 100000 in
theorem L_glr53_1 (l : Launch) (ad : Nat → Nat) (E : Ev) (σ : Sg) (C : Cx E l (rmk 4) 4 cX7_gatherLeastRows RX7) (X : Rx E ad none (oV (fun τ => IX τ.1 ∧ Fr [52, 53, 54] [(38, 3), (38, 4), (38, 5), (38, 6), (38, 7)] σ τ ∧ True)))  : ∀ (n : Nat) (τ : Sg) (z : Int32), (Fr [52, 53, 54] [(38, 3), (38, 4), (38, 5), (38, 6), (38, 7)] σ τ) → (IX τ.1) → (0 ≤ z.toInt) → (4 - z.toInt).toNat < n → WP E ad 53 [some (.ref (ad 38)), some (.int z), none, none] [] τ := by
  intro n
  induction n with
  | zero => intro τ z kF hXτ h0 hm9; exact absurd hm9 (Nat.not_lt_zero _)
  | succ n ih =>
    intro τ z kF hXτ h0 hm9
    have hpr := hXτ.pr
    have hsz := hXτ.sz
    refine s_iload_n C dX7_gatherLeastRows_53 rfl ?_
    refine s_aload_n C dX7_gatherLeastRows_54 rfl ?_
    refine s_getr (k := 2) (j := 1) C y38 fw_X7_46 rfl dX7_gatherLeastRows_55 ?_
    refine s_get (k := 0) (x := (τ.1 1 0)) C y1 fw_X7_80 rfl rfl dX7_gatherLeastRows_58 ?_
    refine s_icmp_ge (tgt := 112) C dX7_gatherLeastRows_61 (by decide) (fun q1 => ?_) (fun q1 => ?_)
    · exact s_vret C X dX7_gatherLeastRows_112 ⟨hXτ, kF, trivial⟩
    · refine s_iconst C dX7_gatherLeastRows_64 (by decide) (fun z2 tz2 => ?_)
      refine s_istore_n C dX7_gatherLeastRows_65 (by decide) (Nat.le_of_ble_eq_true rfl) rfl ?_
      show WP E ad 66 [some (.ref (ad 38)), some (.int z), some (.int z2), none] [] τ
      exact L_glr66_1 l ad E σ z (by omega) C X (fun υ p2 h1 h2 h3 => ih υ p2 h1 h2 (by omega) (by omega)) 100 τ z2 (Fr.tr Fr.rf (Fr.mo kF (by decide) (by decide))) hXτ (by omega) (by omega)
set_option maxRecDepth 100000 in
theorem L_glr10_1 (l : Launch) (ad : Nat → Nat) (E : Ev) (σ : Sg) (C : Cx E l (rmk 4) 4 cX7_gatherLeastRows RX7) (X : Rx E ad none (oV (fun τ => IX τ.1 ∧ Fr [52, 53, 54] [(38, 3), (38, 4), (38, 5), (38, 6), (38, 7)] σ τ ∧ True)))  : ∀ (n : Nat) (τ : Sg) (z : Int32), (Fr [52, 53, 54] [(38, 3), (38, 4), (38, 5), (38, 6), (38, 7)] σ τ) → (IX τ.1) → (0 ≤ z.toInt) → (1296 - z.toInt).toNat < n → WP E ad 10 [some (.ref (ad 38)), some (.int z), none, none] [] τ := by
  intro n
  induction n with
  | zero => intro τ z kF hXτ h0 hm9; exact absurd hm9 (Nat.not_lt_zero _)
  | succ n ih =>
    intro τ z kF hXτ h0 hm9
    have hpr := hXτ.pr
    have hsz := hXτ.sz
    refine s_iload_n C dX7_gatherLeastRows_10 rfl ?_
    refine s_aload_n C dX7_gatherLeastRows_11 rfl ?_
    refine s_getr (k := 1) (j := 61) C y38 fw_X7_42 rfl dX7_gatherLeastRows_12 ?_
    refine s_get (k := 2) (x := (τ.1 61 2)) C y61 fw_X7_62 rfl rfl dX7_gatherLeastRows_15 ?_
    refine s_icmp_ge (tgt := 51) C dX7_gatherLeastRows_18 (by decide) (fun q1 => ?_) (fun q1 => ?_)
    · refine s_iconst C dX7_gatherLeastRows_51 (by decide) (fun z2 tz2 => ?_)
      refine s_istore_n C dX7_gatherLeastRows_52 (by decide) (Nat.le_of_ble_eq_true rfl) rfl ?_
      show WP E ad 53 [some (.ref (ad 38)), some (.int z2), none, none] [] τ
      exact L_glr53_1 l ad E σ C X 100 τ z2 (Fr.tr Fr.rf (Fr.mo kF (by decide) (by decide))) hXτ (by omega) (by omega)
    · refine s_aload_n C dX7_gatherLeastRows_21 rfl ?_
      refine s_getr (k := 8) (j := 52) C y38 fw_X7_28 rfl dX7_gatherLeastRows_22 ?_
      refine s_iload_n C dX7_gatherLeastRows_25 rfl ?_
      refine s_iald (r := (τ.1 52 z.toNatClampNeg)) C y52 (by omega) rfl dX7_gatherLeastRows_26 ?_
      refine s_iconst C dX7_gatherLeastRows_27 (by decide) (fun z3 tz3 => ?_)
      refine s_iand C dX7_gatherLeastRows_28 (fun z4 tz4 => ?_)
      refine s_if_eq (tgt := 45) C dX7_gatherLeastRows_29 (by decide) (fun q5 => ?_) (fun q5 => ?_)
      · refine s_iinc C dX7_gatherLeastRows_45 rfl (by decide) rfl (by decide) (by omega) (fun z6 tz6 => ?_)
        show WP E ad 48 [some (.ref (ad 38)), some (.int z6), none, none] [] τ
        refine s_goto (tgt := 10) C dX7_gatherLeastRows_48 (by decide) ?_
        exact ih τ z6 (Fr.tr Fr.rf (Fr.mo kF (by decide) (by decide))) hXτ (by omega) (by omega)
      · refine s_aload_n C dX7_gatherLeastRows_32 rfl ?_
        refine s_aload_n C dX7_gatherLeastRows_33 rfl ?_
        refine s_getr (k := 1) (j := 61) C y38 fw_X7_42 rfl dX7_gatherLeastRows_34 ?_
        refine s_getr (k := 3) (j := 62) C y61 fw_X7_67 rfl dX7_gatherLeastRows_37 ?_
        refine s_iload_n C dX7_gatherLeastRows_40 rfl ?_
        refine s_iald (r := (τ.1 62 z.toNatClampNeg)) C y62 (by omega) rfl dX7_gatherLeastRows_41 ?_
        refine s_callVV (st := []) C (c_X7_gather_1 l ad τ ((τ.1 62 z.toNatClampNeg)) hXτ (hXτ.rw _)) cv_X7_95 y38 rfl rfl rfl ⟨by decide, by decide⟩ (Nat.le_of_ble_eq_true rfl) dX7_gatherLeastRows_42 ?_
        intro τ8 h9
        have hXτ8 := h9.1
        have hRτ8 := h9.2.2
        refine s_iinc C dX7_gatherLeastRows_45 rfl (by decide) rfl (by decide) (by omega) (fun z10 tz10 => ?_)
        show WP E ad 48 [some (.ref (ad 38)), some (.int z10), none, none] [] τ8
        refine s_goto (tgt := 10) C dX7_gatherLeastRows_48 (by decide) ?_
        exact ih τ8 z10 (Fr.tr (Fr.tr Fr.rf (Fr.mo kF (by decide) (by decide))) (Fr.mo h9.2.1 (by decide) (by decide))) hXτ8 (by omega) (by omega)
set_option maxRecDepth 100000 in
theorem c_X7_gatherLeastRows_1 (l : Launch) (ad : Nat → Nat) (σ : Sg)  (hX : IX σ.1)  : Mt l yX7_gatherLeastRows cX7_gatherLeastRows 4 none 4 ad σ [.ref (ad 38)] (oV (fun τ => IX τ.1 ∧ Fr [52, 53, 54] [(38, 3), (38, 4), (38, 5), (38, 6), (38, 7)] σ τ ∧ True)) := by
  have hpr := hX.pr
  have hsz := hX.sz
  refine Mt_intro (by decide +kernel) (by simp [lg_sl, Value.category]) (fun E C X => ?_)
  show WP E ad 0 [some (.ref (ad 38)), none, none, none] [] σ
  refine s_aload_n C dX7_gatherLeastRows_0 rfl ?_
  refine s_getr (k := 9) (j := 53) C y38 fw_X7_32 rfl dX7_gatherLeastRows_1 ?_
  refine s_iconst C dX7_gatherLeastRows_4 (by decide) (fun z1 tz1 => ?_)
  refine s_callSV (st := []) C (c_J7_fill_53178 l ad σ 53 24 0 y53 (by decide) z1) cv_X7_89 rfl rfl ⟨by decide, by decide⟩ (Nat.le_of_ble_eq_true rfl) dX7_gatherLeastRows_5 ?_
  intro τ3 h4
  subst h4
  refine s_iconst C dX7_gatherLeastRows_8 (by decide) (fun z5 tz5 => ?_)
  refine s_istore_n C dX7_gatherLeastRows_9 (by decide) (Nat.le_of_ble_eq_true rfl) rfl ?_
  show WP E ad 10 [some (.ref (ad 38)), some (.int z5), none, none] [] (sR σ 53 (fun _ => z1))
  exact L_glr10_1 l ad E σ  C X 5000 (sR σ 53 (fun _ => z1)) z5 (Fr.sR Fr.rf (by decide)) hX (by omega) (by omega)
set_option maxRecDepth 100000 in
theorem L_join_1 (l : Launch) (ad : Nat → Nat) (E : Ev) (σ : Sg) (hX : IX σ.1) (a : Int32) (hg : GR a) (C : Cx E l (rmk 2) 4 cX7_isJoinOfLeast RX7) (X : Rx E ad (some .boolean) (oI (fun r τ => τ = σ ∧ (r.toInt = 0 ∨ r.toInt = 1))))  : ∀ (n : Nat) (z : Int32), (0 ≤ z.toInt) → (4 - z.toInt).toNat < n → WP E ad 2 [some (.ref (ad 38)), some (.int a), some (.int z), none] [] σ := by
  intro n
  induction n with
  | zero => intro z h0 hm9; exact absurd hm9 (Nat.not_lt_zero _)
  | succ n ih =>
    intro z h0 hm9
    have hpr := hX.pr
    have hsz := hX.sz
    refine s_iload_n C dX7_isJoinOfLeast_2 rfl ?_
    refine s_aload_n C dX7_isJoinOfLeast_3 rfl ?_
    refine s_getr (k := 2) (j := 1) C y38 fw_X7_46 rfl dX7_isJoinOfLeast_4 ?_
    refine s_get (k := 0) (x := (σ.1 1 0)) C y1 fw_X7_80 rfl rfl dX7_isJoinOfLeast_7 ?_
    refine s_icmp_ge (tgt := 57) C dX7_isJoinOfLeast_10 (by decide) (fun q1 => ?_) (fun q1 => ?_)
    · refine s_iconst C dX7_isJoinOfLeast_57 (by decide) (fun z2 tz2 => ?_)
      exact s_zret C (by omega) X dX7_isJoinOfLeast_58 ⟨rfl, by omega⟩
    · refine s_aload_n C dX7_isJoinOfLeast_13 rfl ?_
      refine s_getr (k := 9) (j := 53) C y38 fw_X7_32 rfl dX7_isJoinOfLeast_14 ?_
      refine s_iload_n C dX7_isJoinOfLeast_17 rfl ?_
      refine s_bipush C dX7_isJoinOfLeast_18 (by decide) (fun z3 tz3 => ?_)
      refine s_imulR C tz3 dX7_isJoinOfLeast_20 (by omega) (fun z4 tz4 => ?_)
      refine s_iload_n C dX7_isJoinOfLeast_21 rfl ?_
      refine s_aload_n C dX7_isJoinOfLeast_22 rfl ?_
      refine s_getr (k := 2) (j := 1) C y38 fw_X7_46 rfl dX7_isJoinOfLeast_23 ?_
      refine s_iload_n C dX7_isJoinOfLeast_26 rfl ?_
      refine s_callVI (st := [.int a, .int z4, .ref (ad 53)]) C (c_X5_placeOf l ad σ z (by omega) (by omega)) cv_X7_102 y1 rfl rfl rfl ⟨by decide, by decide⟩ (Nat.le_of_ble_eq_true rfl) dX7_isJoinOfLeast_27 ?_
      intro r5 τ6 h7
      obtain ⟨eh7, h7⟩ := h7; replace eh7 := eh7.symm; subst eh7
      refine s_callSI (st := [.int z4, .ref (ad 53)]) C (c_X4_at l ad σ a r5 ) cv_X7_105 rfl rfl ⟨by decide, by decide⟩ (Nat.le_of_ble_eq_true rfl) dX7_isJoinOfLeast_30 ?_
      intro r8 τ9 h10
      obtain ⟨eh10, h10⟩ := h10; replace eh10 := eh10.symm; subst eh10
      have gh10 : r8.toInt ≤ 5 := by rw [h10.1]; exact GR.at5 hg (by omega)
      refine s_iadd C dX7_isJoinOfLeast_33 (by omega) (fun z11 tz11 => ?_)
      refine s_iald (r := (σ.1 53 z11.toNatClampNeg)) C y53 (by omega) rfl dX7_isJoinOfLeast_34 ?_
      refine s_istore_n C dX7_isJoinOfLeast_35 (by decide) (Nat.le_of_ble_eq_true rfl) rfl ?_
      show WP E ad 36 [some (.ref (ad 38)), some (.int a), some (.int z), some (.int (σ.1 53 z11.toNatClampNeg))] [] σ
      refine s_iload_n C dX7_isJoinOfLeast_36 rfl ?_
      refine s_iconst C dX7_isJoinOfLeast_37 (by decide) (fun z12 tz12 => ?_)
      refine s_icmp_eq (tgt := 49) C dX7_isJoinOfLeast_38 (by decide) (fun q13 => ?_) (fun q13 => ?_)
      · refine s_iconst C dX7_isJoinOfLeast_49 (by decide) (fun z14 tz14 => ?_)
        exact s_zret C (by omega) X dX7_isJoinOfLeast_50 ⟨rfl, by omega⟩
      · refine s_iload_n C dX7_isJoinOfLeast_41 rfl ?_
        refine s_iload_n C dX7_isJoinOfLeast_42 rfl ?_
        refine s_callSI (st := []) C (c_X4_isWithin l ad σ ((σ.1 53 z11.toNatClampNeg)) a ) cv_X7_117 rfl rfl ⟨by decide, by decide⟩ (Nat.le_of_ble_eq_true rfl) dX7_isJoinOfLeast_43 ?_
        intro r15 τ16 h17
        obtain ⟨eh17, h17⟩ := h17; replace eh17 := eh17.symm; subst eh17
        refine s_if_ne (tgt := 51) C dX7_isJoinOfLeast_46 (by decide) (fun q18 => ?_) (fun q18 => ?_)
        · refine s_iinc C dX7_isJoinOfLeast_51 rfl (by decide) rfl (by decide) (by omega) (fun z19 tz19 => ?_)
          show WP E ad 54 [some (.ref (ad 38)), some (.int a), some (.int z19), some (.int (σ.1 53 z11.toNatClampNeg))] [] σ
          refine s_goto (tgt := 2) C dX7_isJoinOfLeast_54 (by decide) ?_
          refine wp_le (lv' := [some (.ref (ad 38)), some (.int a), some (.int z19), none]) ⟨rfl, ⟨rfl, ⟨rfl, trivial⟩⟩⟩ ?_
          exact ih z19 (by omega) (by omega)
        · refine s_iconst C dX7_isJoinOfLeast_49 (by decide) (fun z20 tz20 => ?_)
          exact s_zret C (by omega) X dX7_isJoinOfLeast_50 ⟨rfl, by omega⟩
set_option maxRecDepth 100000 in
theorem c_X7_isJoinOfLeast_1 (l : Launch) (ad : Nat → Nat) (σ : Sg) (a : Int32) (hX : IX σ.1) (hg : GR a) : Mt l yX7_isJoinOfLeast cX7_isJoinOfLeast 4 (some .boolean) 2 ad σ [.ref (ad 38), .int a] (oI (fun r τ => τ = σ ∧ (r.toInt = 0 ∨ r.toInt = 1))) := by
  have hpr := hX.pr
  have hsz := hX.sz
  refine Mt_intro (by decide +kernel) (by simp [lg_sl, Value.category]) (fun E C X => ?_)
  show WP E ad 0 [some (.ref (ad 38)), some (.int a), none, none] [] σ
  refine s_iconst C dX7_isJoinOfLeast_0 (by decide) (fun z1 tz1 => ?_)
  refine s_istore_n C dX7_isJoinOfLeast_1 (by decide) (Nat.le_of_ble_eq_true rfl) rfl ?_
  show WP E ad 2 [some (.ref (ad 38)), some (.int a), some (.int z1), none] [] σ
  exact L_join_1 l ad E σ hX a hg C X 100 z1 (by omega) (by omega)
set_option maxRecDepth 100000 in
theorem L_flagS_1 (l : Launch) (ad : Nat → Nat) (E : Ev) (σ : Sg) (C : Cx E l (rmk 3) 2 cX7_flagSliced RX7) (X : Rx E ad none (oV (fun τ => IX τ.1 ∧ Fr [52, 53, 54] [(38, 3), (38, 4), (38, 5), (38, 6), (38, 7)] σ τ ∧ True)))  : ∀ (n : Nat) (τ : Sg) (z : Int32), (Fr [52, 53, 54] [(38, 3), (38, 4), (38, 5), (38, 6), (38, 7)] σ τ) → (IX τ.1) → (0 ≤ z.toInt) → (1296 - z.toInt).toNat < n → WP E ad 7 [some (.ref (ad 38)), some (.int z)] [] τ := by
  intro n
  induction n with
  | zero => intro τ z kF hXτ h0 hm9; exact absurd hm9 (Nat.not_lt_zero _)
  | succ n ih =>
    intro τ z kF hXτ h0 hm9
    have hpr := hXτ.pr
    have hsz := hXτ.sz
    refine s_iload_n C dX7_flagSliced_7 rfl ?_
    refine s_aload_n C dX7_flagSliced_8 rfl ?_
    refine s_getr (k := 1) (j := 61) C y38 fw_X7_42 rfl dX7_flagSliced_9 ?_
    refine s_get (k := 2) (x := (τ.1 61 2)) C y61 fw_X7_62 rfl rfl dX7_flagSliced_12 ?_
    refine s_icmp_ge (tgt := 60) C dX7_flagSliced_15 (by decide) (fun q1 => ?_) (fun q1 => ?_)
    · exact s_vret C X dX7_flagSliced_60 ⟨hXτ, kF, trivial⟩
    · refine s_aload_n C dX7_flagSliced_18 rfl ?_
      refine s_aload_n C dX7_flagSliced_19 rfl ?_
      refine s_getr (k := 1) (j := 61) C y38 fw_X7_42 rfl dX7_flagSliced_20 ?_
      refine s_getr (k := 3) (j := 62) C y61 fw_X7_67 rfl dX7_flagSliced_23 ?_
      refine s_iload_n C dX7_flagSliced_26 rfl ?_
      refine s_iald (r := (τ.1 62 z.toNatClampNeg)) C y62 (by omega) rfl dX7_flagSliced_27 ?_
      refine s_callVI (st := []) C (c_X7_isJoinOfLeast_1 l ad τ ((τ.1 62 z.toNatClampNeg)) hXτ (hXτ.rw _)) cv_X7_113 y38 rfl rfl rfl ⟨by decide, by decide⟩ (Nat.le_of_ble_eq_true rfl) dX7_flagSliced_28 ?_
      intro r2 τ3 h4
      obtain ⟨eh4, h4⟩ := h4; replace eh4 := eh4.symm; subst eh4
      refine s_if_eq (tgt := 54) C dX7_flagSliced_31 (by decide) (fun q5 => ?_) (fun q5 => ?_)
      · refine s_iinc C dX7_flagSliced_54 rfl (by decide) rfl (by decide) (by omega) (fun z6 tz6 => ?_)
        show WP E ad 57 [some (.ref (ad 38)), some (.int z6)] [] τ
        refine s_goto (tgt := 7) C dX7_flagSliced_57 (by decide) ?_
        exact ih τ z6 (Fr.tr Fr.rf (Fr.mo kF (by decide) (by decide))) hXτ (by omega) (by omega)
      · refine s_aload_n C dX7_flagSliced_34 rfl ?_
        refine s_getr (k := 8) (j := 52) C y38 fw_X7_28 rfl dX7_flagSliced_35 ?_
        refine s_iload_n C dX7_flagSliced_38 rfl ?_
        refine s_dup2 C dX7_flagSliced_39 rfl rfl ?_
        refine s_iald (r := (τ.1 52 z.toNatClampNeg)) C y52 (by omega) rfl dX7_flagSliced_40 ?_
        refine s_iconst C dX7_flagSliced_41 (by decide) (fun z7 tz7 => ?_)
        refine s_ior C dX7_flagSliced_42 (fun z8 tz8 => ?_)
        refine s_iast C y52 (by omega) dX7_flagSliced_43 ?_
        refine s_aload_n C dX7_flagSliced_44 rfl ?_
        refine s_dup C dX7_flagSliced_45 rfl ?_
        refine s_get (k := 7) (x := (τ.1 38 7)) C y38 fw_X7_25 rfl rfl dX7_flagSliced_46 ?_
        refine s_iconst C dX7_flagSliced_49 (by decide) (fun z9 tz9 => ?_)
        refine s_iaddU C dX7_flagSliced_50 (fun z10 tz10 => ?_)
        refine s_put (k := 7) C y38 fw_X7_25 fp_6_7 rfl dX7_flagSliced_51 ?_
        refine s_iinc C dX7_flagSliced_54 rfl (by decide) rfl (by decide) (by omega) (fun z11 tz11 => ?_)
        show WP E ad 57 [some (.ref (ad 38)), some (.int z11)] [] (sV (sV τ 52 z.toNatClampNeg z8) 38 7 z10)
        refine s_goto (tgt := 7) C dX7_flagSliced_57 (by decide) ?_
        exact ih (sV (sV τ 52 z.toNatClampNeg z8) 38 7 z10) z11 (Fr.sV (Fr.sV (Fr.tr Fr.rf (Fr.mo kF (by decide) (by decide))) (Or.inl (by decide))) (Or.inr (by decide))) hXτ (by omega) (by omega)
set_option maxRecDepth 100000 in
theorem c_X7_flagSliced_1 (l : Launch) (ad : Nat → Nat) (σ : Sg)  (hX : IX σ.1)  : Mt l yX7_flagSliced cX7_flagSliced 2 none 3 ad σ [.ref (ad 38)] (oV (fun τ => IX τ.1 ∧ Fr [52, 53, 54] [(38, 3), (38, 4), (38, 5), (38, 6), (38, 7)] σ τ ∧ True)) := by
  have hpr := hX.pr
  have hsz := hX.sz
  refine Mt_intro (by decide +kernel) (by simp [lg_sl, Value.category]) (fun E C X => ?_)
  show WP E ad 0 [some (.ref (ad 38)), none] [] σ
  refine s_aload_n C dX7_flagSliced_0 rfl ?_
  refine s_iconst C dX7_flagSliced_1 (by decide) (fun z1 tz1 => ?_)
  refine s_put (k := 7) C y38 fw_X7_25 fp_6_7 rfl dX7_flagSliced_2 ?_
  refine s_iconst C dX7_flagSliced_5 (by decide) (fun z2 tz2 => ?_)
  refine s_istore_n C dX7_flagSliced_6 (by decide) (Nat.le_of_ble_eq_true rfl) rfl ?_
  show WP E ad 7 [some (.ref (ad 38)), some (.int z2)] [] (sV σ 38 7 z1)
  exact L_flagS_1 l ad E σ  C X 5000 (sV σ 38 7 z1) z2 (Fr.sV Fr.rf (Or.inr (by decide))) hX (by omega) (by omega)
set_option maxRecDepth 100000 in
theorem c_X7_needPassable_1 (l : Launch) (ad : Nat → Nat) (σ : Sg)  (hX : IX σ.1)  : Mt l yX7_needPassable cX7_needPassable 1 none 4 ad σ [.ref (ad 38)] (oV (fun τ => IX τ.1 ∧ Fr [52, 53, 54] [(38, 3), (38, 4), (38, 5), (38, 6), (38, 7)] σ τ ∧ True)) := by
  have hpr := hX.pr
  have hsz := hX.sz
  refine Mt_intro (by decide +kernel) (by simp [lg_sl, Value.category]) (fun E C X => ?_)
  show WP E ad 0 [some (.ref (ad 38))] [] σ
  refine s_aload_n C dX7_needPassable_0 rfl ?_
  refine s_get (k := 4) (x := (σ.1 38 4)) C y38 fw_X7_15 rfl rfl dX7_needPassable_1 ?_
  refine s_if_ne (tgt := 16) C dX7_needPassable_4 (by decide) (fun q1 => ?_) (fun q1 => ?_)
  · exact s_vret C X dX7_needPassable_16 ⟨hX, Fr.rf, trivial⟩
  · refine s_aload_n C dX7_needPassable_7 rfl ?_
    refine s_iconst C dX7_needPassable_8 (by decide) (fun z2 tz2 => ?_)
    refine s_putz (k := 4) C y38 fw_X7_15 fp_6_4 rfl (by omega) dX7_needPassable_9 ?_
    refine s_aload_n C dX7_needPassable_12 rfl ?_
    refine s_callVV (st := []) C (c_X7_flagPassable_1 l ad (sV σ 38 4 z2)  hX ) cv_X7_53 y38 rfl rfl rfl ⟨by decide, by decide⟩ (Nat.le_of_ble_eq_true rfl) dX7_needPassable_13 ?_
    intro τ4 h5
    have hXτ4 := h5.1
    have hRτ4 := h5.2.2
    have prτ4 := hXτ4.pr
    have szτ4 := hXτ4.sz
    exact s_vret C X dX7_needPassable_16 ⟨hXτ4, (Fr.tr (Fr.sV Fr.rf (Or.inr (by decide))) (Fr.mo h5.2.1 (by decide) (by decide))), trivial⟩
set_option maxRecDepth 100000 in
theorem c_X7_needSlice_1 (l : Launch) (ad : Nat → Nat) (σ : Sg)  (hX : IX σ.1)  : Mt l yX7_needSlice cX7_needSlice 1 none 5 ad σ [.ref (ad 38)] (oV (fun τ => IX τ.1 ∧ Fr [52, 53, 54] [(38, 3), (38, 4), (38, 5), (38, 6), (38, 7)] σ τ ∧ True)) := by
  have hpr := hX.pr
  have hsz := hX.sz
  refine Mt_intro (by decide +kernel) (by simp [lg_sl, Value.category]) (fun E C X => ?_)
  show WP E ad 0 [some (.ref (ad 38))] [] σ
  refine s_aload_n C dX7_needSlice_0 rfl ?_
  refine s_get (k := 5) (x := (σ.1 38 5)) C y38 fw_X7_18 rfl rfl dX7_needSlice_1 ?_
  refine s_if_ne (tgt := 20) C dX7_needSlice_4 (by decide) (fun q1 => ?_) (fun q1 => ?_)
  · exact s_vret C X dX7_needSlice_20 ⟨hX, Fr.rf, trivial⟩
  · refine s_aload_n C dX7_needSlice_7 rfl ?_
    refine s_iconst C dX7_needSlice_8 (by decide) (fun z2 tz2 => ?_)
    refine s_putz (k := 5) C y38 fw_X7_18 fp_6_5 rfl (by omega) dX7_needSlice_9 ?_
    refine s_aload_n C dX7_needSlice_12 rfl ?_
    refine s_callVV (st := []) C (c_X7_gatherLeastRows_1 l ad (sV σ 38 5 z2)  hX ) cv_X7_56 y38 rfl rfl rfl ⟨by decide, by decide⟩ (Nat.le_of_ble_eq_true rfl) dX7_needSlice_13 ?_
    intro τ4 h5
    have hXτ4 := h5.1
    have hRτ4 := h5.2.2
    have prτ4 := hXτ4.pr
    have szτ4 := hXτ4.sz
    refine s_aload_n C dX7_needSlice_16 rfl ?_
    refine s_callVV (st := []) C (c_X7_flagSliced_1 l ad τ4  hXτ4 ) cv_X7_59 y38 rfl rfl rfl ⟨by decide, by decide⟩ (Nat.le_of_ble_eq_true rfl) dX7_needSlice_17 ?_
    intro τ7 h8
    have hXτ7 := h8.1
    have hRτ7 := h8.2.2
    have prτ7 := hXτ7.pr
    have szτ7 := hXτ7.sz
    exact s_vret C X dX7_needSlice_20 ⟨hXτ7, (Fr.tr (Fr.tr (Fr.sV Fr.rf (Or.inr (by decide))) (Fr.mo h5.2.1 (by decide) (by decide))) (Fr.mo h8.2.1 (by decide) (by decide))), trivial⟩
set_option maxRecDepth 100000 in
theorem c_X7_refresh_1 (l : Launch) (ad : Nat → Nat) (σ : Sg)  (hX : IX σ.1)  : Mt l yX7_refresh cX7_refresh 1 none 5 ad σ [.ref (ad 38)] (oV (fun τ => IX τ.1 ∧ Fr [52, 53, 54] [(38, 3), (38, 4), (38, 5), (38, 6), (38, 7)] σ τ ∧ True)) := by
  have hpr := hX.pr
  have hsz := hX.sz
  refine Mt_intro (by decide +kernel) (by simp [lg_sl, Value.category]) (fun E C X => ?_)
  show WP E ad 0 [some (.ref (ad 38))] [] σ
  refine s_aload_n C dX7_refresh_0 rfl ?_
  refine s_get (k := 3) (x := (σ.1 38 3)) C y38 fw_X7_9 rfl rfl dX7_refresh_1 ?_
  refine s_if_ne (tgt := 8) C dX7_refresh_4 (by decide) (fun q1 => ?_) (fun q1 => ?_)
  · refine s_aload_n C dX7_refresh_8 rfl ?_
    refine s_iconst C dX7_refresh_9 (by decide) (fun z2 tz2 => ?_)
    refine s_putz (k := 3) C y38 fw_X7_9 fp_6_3 rfl (by omega) dX7_refresh_10 ?_
    refine s_aload_n C dX7_refresh_13 rfl ?_
    refine s_iconst C dX7_refresh_14 (by decide) (fun z3 tz3 => ?_)
    refine s_putz (k := 4) C y38 fw_X7_15 fp_6_4 rfl (by omega) dX7_refresh_15 ?_
    refine s_aload_n C dX7_refresh_18 rfl ?_
    refine s_iconst C dX7_refresh_19 (by decide) (fun z4 tz4 => ?_)
    refine s_putz (k := 5) C y38 fw_X7_18 fp_6_5 rfl (by omega) dX7_refresh_20 ?_
    refine s_aload_n C dX7_refresh_23 rfl ?_
    refine s_callVV (st := []) C (c_X7_flagMet_1 l ad (sV (sV (sV σ 38 3 z2) 38 4 z3) 38 5 z4)  hX ) cv_X7_50 y38 rfl rfl rfl ⟨by decide, by decide⟩ (Nat.le_of_ble_eq_true rfl) dX7_refresh_24 ?_
    intro τ6 h7
    have hXτ6 := h7.1
    have hRτ6 := h7.2.2
    have prτ6 := hXτ6.pr
    have szτ6 := hXτ6.sz
    exact s_vret C X dX7_refresh_27 ⟨hXτ6, (Fr.tr (Fr.sV (Fr.sV (Fr.sV Fr.rf (Or.inr (by decide))) (Or.inr (by decide))) (Or.inr (by decide))) (Fr.mo h7.2.1 (by decide) (by decide))), trivial⟩
  · exact s_vret C X dX7_refresh_7 ⟨hX, Fr.rf, trivial⟩
set_option maxRecDepth 100000 in
theorem c_X7_meetsAt_1 (l : Launch) (ad : Nat → Nat) (σ : Sg) (i : Int32) (hX : IX σ.1) (hi : 0 ≤ i.toInt ∧ i.toInt ≤ 1295) : Mt l yX7_meetsAt cX7_meetsAt 2 (some .int) 0 ad σ [.ref (ad 38), .int i] (oI (fun r τ => τ = σ ∧ True)) := by
  have hpr := hX.pr
  have hsz := hX.sz
  refine Mt_intro (by decide +kernel) (by simp [lg_sl, Value.category]) (fun E C X => ?_)
  show WP E ad 0 [some (.ref (ad 38)), some (.int i)] [] σ
  refine s_aload_n C dX7_meetsAt_0 rfl ?_
  refine s_getr (k := 8) (j := 52) C y38 fw_X7_28 rfl dX7_meetsAt_1 ?_
  refine s_iload_n C dX7_meetsAt_4 rfl ?_
  refine s_iald (r := (σ.1 52 i.toNatClampNeg)) C y52 (by omega) rfl dX7_meetsAt_5 ?_
  refine s_iconst C dX7_meetsAt_6 (by decide) (fun z1 tz1 => ?_)
  refine s_iand C dX7_meetsAt_7 (fun z2 tz2 => ?_)
  exact s_iret C X dX7_meetsAt_8 ⟨rfl, trivial⟩
set_option maxRecDepth 100000 in
theorem L_flagged_1 (l : Launch) (ad : Nat → Nat) (E : Ev) (σ : Sg) (hX : IX σ.1) (f b : Int32) (C : Cx E l (rmk 0) 5 cX7_flaggedAt RX7) (X : Rx E ad (some .int) (oI (fun r τ => τ = σ ∧ True)))  : ∀ (n : Nat) (a : Int32) (z : Int32), (0 ≤ a.toInt) → (0 ≤ z.toInt) → (1296 - z.toInt).toNat < n → WP E ad 5 [some (.ref (ad 38)), some (.int f), some (.int b), some (.int a), some (.int z)] [] σ := by
  intro n
  induction n with
  | zero => intro a z ha h0 hm9; exact absurd hm9 (Nat.not_lt_zero _)
  | succ n ih =>
    intro a z ha h0 hm9
    have hpr := hX.pr
    have hsz := hX.sz
    have hau := a.toInt_lt
    refine s_iload C dX7_flaggedAt_5 rfl ?_
    refine s_aload_n C dX7_flaggedAt_7 rfl ?_
    refine s_getr (k := 1) (j := 61) C y38 fw_X7_42 rfl dX7_flaggedAt_8 ?_
    refine s_get (k := 2) (x := (σ.1 61 2)) C y61 fw_X7_62 rfl rfl dX7_flaggedAt_11 ?_
    refine s_icmp_ge (tgt := 45) C dX7_flaggedAt_14 (by decide) (fun q1 => ?_) (fun q1 => ?_)
    · refine s_bipush C dX7_flaggedAt_45 (by decide) (fun z2 tz2 => ?_)
      exact s_iret C X dX7_flaggedAt_47 ⟨rfl, trivial⟩
    · refine s_aload_n C dX7_flaggedAt_17 rfl ?_
      refine s_getr (k := 8) (j := 52) C y38 fw_X7_28 rfl dX7_flaggedAt_18 ?_
      refine s_iload C dX7_flaggedAt_21 rfl ?_
      refine s_iald (r := (σ.1 52 z.toNatClampNeg)) C y52 (by omega) rfl dX7_flaggedAt_23 ?_
      refine s_iload_n C dX7_flaggedAt_24 rfl ?_
      refine s_iand C dX7_flaggedAt_25 (fun z3 tz3 => ?_)
      refine s_if_eq (tgt := 39) C dX7_flaggedAt_26 (by decide) (fun q4 => ?_) (fun q4 => ?_)
      · refine s_iinc C dX7_flaggedAt_39 rfl (by decide) rfl (by decide) (by omega) (fun z5 tz5 => ?_)
        show WP E ad 42 [some (.ref (ad 38)), some (.int f), some (.int b), some (.int a), some (.int z5)] [] σ
        refine s_goto (tgt := 5) C dX7_flaggedAt_42 (by decide) ?_
        exact ih a z5 (by omega) (by omega) (by omega)
      · refine s_iload_n C dX7_flaggedAt_29 rfl ?_
        refine s_if_ne (tgt := 36) C dX7_flaggedAt_30 (by decide) (fun q6 => ?_) (fun q6 => ?_)
        · refine s_iinc C dX7_flaggedAt_36 rfl (by decide) rfl (by decide) (by omega) (fun z7 tz7 => ?_)
          show WP E ad 39 [some (.ref (ad 38)), some (.int f), some (.int b), some (.int z7), some (.int z)] [] σ
          refine s_iinc C dX7_flaggedAt_39 rfl (by decide) rfl (by decide) (by omega) (fun z8 tz8 => ?_)
          show WP E ad 42 [some (.ref (ad 38)), some (.int f), some (.int b), some (.int z7), some (.int z8)] [] σ
          refine s_goto (tgt := 5) C dX7_flaggedAt_42 (by decide) ?_
          exact ih z7 z8 (by omega) (by omega) (by omega)
        · refine s_iload C dX7_flaggedAt_33 rfl ?_
          exact s_iret C X dX7_flaggedAt_35 ⟨rfl, trivial⟩
set_option maxRecDepth 100000 in
theorem c_X7_flaggedAt_1 (l : Launch) (ad : Nat → Nat) (σ : Sg) (f : Int32) (b : Int32) (hX : IX σ.1) (hb : 0 ≤ b.toInt) : Mt l yX7_flaggedAt cX7_flaggedAt 5 (some .int) 0 ad σ [.ref (ad 38), .int f, .int b] (oI (fun r τ => τ = σ ∧ True)) := by
  have hpr := hX.pr
  have hsz := hX.sz
  refine Mt_intro (by decide +kernel) (by simp [lg_sl, Value.category]) (fun E C X => ?_)
  show WP E ad 0 [some (.ref (ad 38)), some (.int f), some (.int b), none, none] [] σ
  refine s_iload_n C dX7_flaggedAt_0 rfl ?_
  refine s_istore_n C dX7_flaggedAt_1 (by decide) (Nat.le_of_ble_eq_true rfl) rfl ?_
  show WP E ad 2 [some (.ref (ad 38)), some (.int f), some (.int b), some (.int b), none] [] σ
  refine s_iconst C dX7_flaggedAt_2 (by decide) (fun z1 tz1 => ?_)
  refine s_istore C dX7_flaggedAt_3 (by decide) (Nat.le_of_ble_eq_true rfl) rfl ?_
  show WP E ad 5 [some (.ref (ad 38)), some (.int f), some (.int b), some (.int b), some (.int z1)] [] σ
  exact L_flagged_1 l ad E σ hX f b C X 5000 b z1 (by omega) (by omega) (by omega)
set_option maxRecDepth 100000 in
theorem c_X7_pickMet_1 (l : Launch) (ad : Nat → Nat) (σ : Sg) (b : Int32) (hX : IX σ.1) (hb : -1 ≤ b.toInt) : Mt l yX7_pickMet cX7_pickMet 2 (some .int) 1 ad σ [.ref (ad 38), .int b] (oI (fun r τ => τ = σ ∧ True)) := by
  have hpr := hX.pr
  have hsz := hX.sz
  refine Mt_intro (by decide +kernel) (by simp [lg_sl, Value.category]) (fun E C X => ?_)
  show WP E ad 0 [some (.ref (ad 38)), some (.int b)] [] σ
  refine s_iload_n C dX7_pickMet_0 rfl ?_
  refine s_iconst C dX7_pickMet_1 (by decide) (fun z1 tz1 => ?_)
  refine s_icmp_ne (tgt := 12) C dX7_pickMet_2 (by decide) (fun q2 => ?_) (fun q2 => ?_)
  · refine s_aload_n C dX7_pickMet_12 rfl ?_
    refine s_iconst C dX7_pickMet_13 (by decide) (fun z3 tz3 => ?_)
    refine s_iload_n C dX7_pickMet_14 rfl ?_
    refine s_callVI (st := []) C (c_X7_flaggedAt_1 l ad σ z3 b hX (by omega)) cv_X7_121 y38 rfl rfl rfl ⟨by decide, by decide⟩ (Nat.le_of_ble_eq_true rfl) dX7_pickMet_15 ?_
    intro r4 τ5 h6
    obtain ⟨eh6, h6⟩ := h6; replace eh6 := eh6.symm; subst eh6
    exact s_iret C X dX7_pickMet_18 ⟨rfl, trivial⟩
  · refine s_aload_n C dX7_pickMet_5 rfl ?_
    refine s_get (k := 6) (x := (σ.1 38 6)) C y38 fw_X7_21 rfl rfl dX7_pickMet_6 ?_
    refine s_goto (tgt := 18) C dX7_pickMet_9 (by decide) ?_
    exact s_iret C X dX7_pickMet_18 ⟨rfl, trivial⟩
set_option maxRecDepth 100000 in
theorem c_X7_pickSliced_1 (l : Launch) (ad : Nat → Nat) (σ : Sg) (b : Int32) (hX : IX σ.1) (hb : -1 ≤ b.toInt) : Mt l yX7_pickSliced cX7_pickSliced 2 (some .int) 6 ad σ [.ref (ad 38), .int b] (oI (fun r τ => IX τ.1 ∧ Fr [52, 53, 54] [(38, 3), (38, 4), (38, 5), (38, 6), (38, 7)] σ τ ∧ True)) := by
  have hpr := hX.pr
  have hsz := hX.sz
  refine Mt_intro (by decide +kernel) (by simp [lg_sl, Value.category]) (fun E C X => ?_)
  show WP E ad 0 [some (.ref (ad 38)), some (.int b)] [] σ
  refine s_aload_n C dX7_pickSliced_0 rfl ?_
  refine s_callVV (st := []) C (c_X7_needSlice_1 l ad σ  hX ) cv_X7_124 y38 rfl rfl rfl ⟨by decide, by decide⟩ (Nat.le_of_ble_eq_true rfl) dX7_pickSliced_1 ?_
  intro τ2 h3
  have hXτ2 := h3.1
  have hRτ2 := h3.2.2
  have prτ2 := hXτ2.pr
  have szτ2 := hXτ2.sz
  refine s_iload_n C dX7_pickSliced_4 rfl ?_
  refine s_iconst C dX7_pickSliced_5 (by decide) (fun z4 tz4 => ?_)
  refine s_icmp_ne (tgt := 16) C dX7_pickSliced_6 (by decide) (fun q5 => ?_) (fun q5 => ?_)
  · refine s_aload_n C dX7_pickSliced_16 rfl ?_
    refine s_iconst C dX7_pickSliced_17 (by decide) (fun z6 tz6 => ?_)
    refine s_iload_n C dX7_pickSliced_18 rfl ?_
    refine s_callVI (st := []) C (c_X7_flaggedAt_1 l ad τ2 z6 b hXτ2 (by omega)) cv_X7_121 y38 rfl rfl rfl ⟨by decide, by decide⟩ (Nat.le_of_ble_eq_true rfl) dX7_pickSliced_19 ?_
    intro r7 τ8 h9
    obtain ⟨eh9, h9⟩ := h9; replace eh9 := eh9.symm; subst eh9
    exact s_iret C X dX7_pickSliced_22 ⟨hXτ2, (Fr.tr Fr.rf (Fr.mo h3.2.1 (by decide) (by decide))), trivial⟩
  · refine s_aload_n C dX7_pickSliced_9 rfl ?_
    refine s_get (k := 7) (x := (τ2.1 38 7)) C y38 fw_X7_25 rfl rfl dX7_pickSliced_10 ?_
    refine s_goto (tgt := 22) C dX7_pickSliced_13 (by decide) ?_
    exact s_iret C X dX7_pickSliced_22 ⟨hXτ2, (Fr.tr Fr.rf (Fr.mo h3.2.1 (by decide) (by decide))), trivial⟩
set_option maxRecDepth 100000 in
theorem c_X7_isExact_1 (l : Launch) (ad : Nat → Nat) (σ : Sg)  (hX : IX σ.1)  : Mt l yX7_isExact cX7_isExact 1 (some .boolean) 6 ad σ [.ref (ad 38)] (oI (fun r τ => IX τ.1 ∧ Fr [52, 53, 54] [(38, 3), (38, 4), (38, 5), (38, 6), (38, 7)] σ τ ∧ (r.toInt = 0 ∨ r.toInt = 1))) := by
  have hpr := hX.pr
  have hsz := hX.sz
  refine Mt_intro (by decide +kernel) (by simp [lg_sl, Value.category]) (fun E C X => ?_)
  show WP E ad 0 [some (.ref (ad 38))] [] σ
  refine s_aload_n C dX7_isExact_0 rfl ?_
  refine s_callVV (st := []) C (c_X7_needSlice_1 l ad σ  hX ) cv_X7_124 y38 rfl rfl rfl ⟨by decide, by decide⟩ (Nat.le_of_ble_eq_true rfl) dX7_isExact_1 ?_
  intro τ2 h3
  have hXτ2 := h3.1
  have hRτ2 := h3.2.2
  have prτ2 := hXτ2.pr
  have szτ2 := hXτ2.sz
  refine s_aload_n C dX7_isExact_4 rfl ?_
  refine s_get (k := 6) (x := (τ2.1 38 6)) C y38 fw_X7_21 rfl rfl dX7_isExact_5 ?_
  refine s_aload_n C dX7_isExact_8 rfl ?_
  refine s_get (k := 7) (x := (τ2.1 38 7)) C y38 fw_X7_25 rfl rfl dX7_isExact_9 ?_
  refine s_icmp_ne (tgt := 19) C dX7_isExact_12 (by decide) (fun q4 => ?_) (fun q4 => ?_)
  · refine s_iconst C dX7_isExact_19 (by decide) (fun z5 tz5 => ?_)
    exact s_zret C (by omega) X dX7_isExact_20 ⟨hXτ2, (Fr.tr Fr.rf (Fr.mo h3.2.1 (by decide) (by decide))), by omega⟩
  · refine s_iconst C dX7_isExact_15 (by decide) (fun z6 tz6 => ?_)
    refine s_goto (tgt := 20) C dX7_isExact_16 (by decide) ?_
    exact s_zret C (by omega) X dX7_isExact_20 ⟨hXτ2, (Fr.tr Fr.rf (Fr.mo h3.2.1 (by decide) (by decide))), by omega⟩
set_option maxRecDepth 100000 in
theorem c_X7_hasWayRound_1 (l : Launch) (ad : Nat → Nat) (σ : Sg)  (hX : IX σ.1)  : Mt l yX7_hasWayRound cX7_hasWayRound 1 (some .boolean) 5 ad σ [.ref (ad 38)] (oI (fun r τ => IX τ.1 ∧ Fr [52, 53, 54] [(38, 3), (38, 4), (38, 5), (38, 6), (38, 7)] σ τ ∧ (r.toInt = 0 ∨ r.toInt = 1))) := by
  have hpr := hX.pr
  have hsz := hX.sz
  refine Mt_intro (by decide +kernel) (by simp [lg_sl, Value.category]) (fun E C X => ?_)
  show WP E ad 0 [some (.ref (ad 38))] [] σ
  refine s_aload_n C dX7_hasWayRound_0 rfl ?_
  refine s_callVV (st := []) C (c_X7_needPassable_1 l ad σ  hX ) cv_X7_127 y38 rfl rfl rfl ⟨by decide, by decide⟩ (Nat.le_of_ble_eq_true rfl) dX7_hasWayRound_1 ?_
  intro τ2 h3
  have hXτ2 := h3.1
  have hRτ2 := h3.2.2
  have prτ2 := hXτ2.pr
  have szτ2 := hXτ2.sz
  refine s_aload_n C dX7_hasWayRound_4 rfl ?_
  refine s_getr (k := 8) (j := 52) C y38 fw_X7_28 rfl dX7_hasWayRound_5 ?_
  refine s_iconst C dX7_hasWayRound_8 (by decide) (fun z4 tz4 => ?_)
  refine s_iald (r := (τ2.1 52 z4.toNatClampNeg)) C y52 (by omega) rfl dX7_hasWayRound_9 ?_
  refine s_iconst C dX7_hasWayRound_10 (by decide) (fun z5 tz5 => ?_)
  refine s_iand C dX7_hasWayRound_11 (fun z6 tz6 => ?_)
  refine s_if_eq (tgt := 19) C dX7_hasWayRound_12 (by decide) (fun q7 => ?_) (fun q7 => ?_)
  · refine s_iconst C dX7_hasWayRound_19 (by decide) (fun z8 tz8 => ?_)
    exact s_zret C (by omega) X dX7_hasWayRound_20 ⟨hXτ2, (Fr.tr Fr.rf (Fr.mo h3.2.1 (by decide) (by decide))), by omega⟩
  · refine s_iconst C dX7_hasWayRound_15 (by decide) (fun z9 tz9 => ?_)
    refine s_goto (tgt := 20) C dX7_hasWayRound_16 (by decide) ?_
    exact s_zret C (by omega) X dX7_hasWayRound_20 ⟨hXτ2, (Fr.tr Fr.rf (Fr.mo h3.2.1 (by decide) (by decide))), by omega⟩
set_option maxRecDepth 100000 in
theorem L_stepR_1 (l : Launch) (ad : Nat → Nat) (E : Ev) (σ τ : Sg) (kF : Fr [52, 53, 54] [(38, 3), (38, 4), (38, 5), (38, 6), (38, 7)] σ τ) (hXτ : IX τ.1) (b : Int32) (hb : b.toInt ≤ 20) (C : Cx E l (rmk 6) 5 cX7_stepRound RX7) (X : Rx E ad (some .int) (oI (fun r τ => IX τ.1 ∧ Fr [52, 53, 54] [(38, 3), (38, 4), (38, 5), (38, 6), (38, 7)] σ τ ∧ True)))  : ∀ (n : Nat) (i : Int32) (p : Int32) (z : Int32), (-1 ≤ i.toInt ∧ i.toInt ≤ 1295) → (0 ≤ z.toInt) → (21 - z.toInt).toNat < n → WP E ad 42 [some (.ref (ad 38)), some (.int b), some (.int i), some (.int p), some (.int z)] [] τ := by
  intro n
  induction n with
  | zero => intro i p z hi h0 hm9; exact absurd hm9 (Nat.not_lt_zero _)
  | succ n ih =>
    intro i p z hi h0 hm9
    have hpr := hXτ.pr
    have hsz := hXτ.sz
    refine s_iload C dX7_stepRound_42 rfl ?_
    refine s_iload_n C dX7_stepRound_44 rfl ?_
    refine s_icmp_gt (tgt := 82) C dX7_stepRound_45 (by decide) (fun q1 => ?_) (fun q1 => ?_)
    · refine s_iload_n C dX7_stepRound_82 rfl ?_
      exact s_iret C X dX7_stepRound_83 ⟨hXτ, kF, trivial⟩
    · refine s_iload_n C dX7_stepRound_48 rfl ?_
      refine s_if_lt (tgt := 82) C dX7_stepRound_49 (by decide) (fun q2 => ?_) (fun q2 => ?_)
      · refine s_iload_n C dX7_stepRound_82 rfl ?_
        exact s_iret C X dX7_stepRound_83 ⟨hXτ, kF, trivial⟩
      · refine s_aload_n C dX7_stepRound_52 rfl ?_
        refine s_iload_n C dX7_stepRound_53 rfl ?_
        refine s_callVI (st := []) C (c_X7_passableStep_1 l ad τ i hXτ (by omega)) cv_X7_76 y38 rfl rfl rfl ⟨by decide, by decide⟩ (Nat.le_of_ble_eq_true rfl) dX7_stepRound_54 ?_
        intro r3 τ4 h5
        obtain ⟨eh5, h5⟩ := h5; replace eh5 := eh5.symm; subst eh5
        refine s_istore_n C dX7_stepRound_57 (by decide) (Nat.le_of_ble_eq_true rfl) rfl ?_
        show WP E ad 58 [some (.ref (ad 38)), some (.int b), some (.int i), some (.int r3), some (.int z)] [] τ
        refine s_iload_n C dX7_stepRound_58 rfl ?_
        refine s_if_lt (tgt := 74) C dX7_stepRound_59 (by decide) (fun q6 => ?_) (fun q6 => ?_)
        · refine s_iconst C dX7_stepRound_74 (by decide) (fun z7 tz7 => ?_)
          refine s_istore_n C dX7_stepRound_75 (by decide) (Nat.le_of_ble_eq_true rfl) rfl ?_
          show WP E ad 76 [some (.ref (ad 38)), some (.int b), some (.int z7), some (.int r3), some (.int z)] [] τ
          refine s_iinc C dX7_stepRound_76 rfl (by decide) rfl (by decide) (by omega) (fun z8 tz8 => ?_)
          show WP E ad 79 [some (.ref (ad 38)), some (.int b), some (.int z7), some (.int r3), some (.int z8)] [] τ
          refine s_goto (tgt := 42) C dX7_stepRound_79 (by decide) ?_
          exact ih z7 r3 z8 (by omega) (by omega) (by omega)
        · refine s_aload_n C dX7_stepRound_62 rfl ?_
          refine s_getr (k := 1) (j := 61) C y38 fw_X7_42 rfl dX7_stepRound_63 ?_
          refine s_iload_n C dX7_stepRound_66 rfl ?_
          refine s_iload_n C dX7_stepRound_67 rfl ?_
          refine s_callVI (st := []) C (c_X2_successor l ad τ i r3 hXτ (by omega) (by omega)) cv_X7_85 y61 rfl rfl rfl ⟨by decide, by decide⟩ (Nat.le_of_ble_eq_true rfl) dX7_stepRound_68 ?_
          intro r9 τ10 h11
          obtain ⟨eh11, h11⟩ := h11; replace eh11 := eh11.symm; subst eh11
          refine s_goto (tgt := 75) C dX7_stepRound_71 (by decide) ?_
          refine s_istore_n C dX7_stepRound_75 (by decide) (Nat.le_of_ble_eq_true rfl) rfl ?_
          show WP E ad 76 [some (.ref (ad 38)), some (.int b), some (.int r9), some (.int r3), some (.int z)] [] τ
          refine s_iinc C dX7_stepRound_76 rfl (by decide) rfl (by decide) (by omega) (fun z12 tz12 => ?_)
          show WP E ad 79 [some (.ref (ad 38)), some (.int b), some (.int r9), some (.int r3), some (.int z12)] [] τ
          refine s_goto (tgt := 42) C dX7_stepRound_79 (by decide) ?_
          exact ih r9 r3 z12 (by omega) (by omega) (by omega)
set_option maxRecDepth 100000 in
theorem c_X7_stepRound_1 (l : Launch) (ad : Nat → Nat) (σ : Sg) (b : Int32) (hX : IX σ.1) (hb : -1 ≤ b.toInt) : Mt l yX7_stepRound cX7_stepRound 5 (some .int) 6 ad σ [.ref (ad 38), .int b] (oI (fun r τ => IX τ.1 ∧ Fr [52, 53, 54] [(38, 3), (38, 4), (38, 5), (38, 6), (38, 7)] σ τ ∧ True)) := by
  have hpr := hX.pr
  have hsz := hX.sz
  refine Mt_intro (by decide +kernel) (by simp [lg_sl, Value.category]) (fun E C X => ?_)
  show WP E ad 0 [some (.ref (ad 38)), some (.int b), none, none, none] [] σ
  refine s_aload_n C dX7_stepRound_0 rfl ?_
  refine s_callVI (st := []) C (c_X7_hasWayRound_1 l ad σ  hX ) cv_X7_130 y38 rfl rfl rfl ⟨by decide, by decide⟩ (Nat.le_of_ble_eq_true rfl) dX7_stepRound_1 ?_
  intro r1 τ2 h3
  have hXτ2 := h3.1
  have hRτ2 := h3.2.2
  have prτ2 := hXτ2.pr
  have totτ2 := hXτ2.tot
  refine s_if_eq (tgt := 18) C dX7_stepRound_4 (by decide) (fun q4 => ?_) (fun q4 => ?_)
  · refine s_bipush C dX7_stepRound_18 (by decide) (fun z5 tz5 => ?_)
    exact s_iret C X dX7_stepRound_20 ⟨hXτ2, (Fr.tr Fr.rf (Fr.mo h3.2.1 (by decide) (by decide))), trivial⟩
  · refine s_iload_n C dX7_stepRound_7 rfl ?_
    refine s_aload_n C dX7_stepRound_8 rfl ?_
    refine s_getr (k := 2) (j := 1) C y38 fw_X7_46 rfl dX7_stepRound_9 ?_
    refine s_get (k := 1) (x := (τ2.1 1 1)) C y1 fw_X7_134 rfl rfl dX7_stepRound_12 ?_
    refine s_icmp_lt (tgt := 21) C dX7_stepRound_15 (by decide) (fun q6 => ?_) (fun q6 => ?_)
    · refine s_iload_n C dX7_stepRound_21 rfl ?_
      refine s_iconst C dX7_stepRound_22 (by decide) (fun z7 tz7 => ?_)
      refine s_icmp_ne (tgt := 34) C dX7_stepRound_23 (by decide) (fun q8 => ?_) (fun q8 => ?_)
      · refine s_iconst C dX7_stepRound_34 (by decide) (fun z9 tz9 => ?_)
        refine s_istore_n C dX7_stepRound_35 (by decide) (Nat.le_of_ble_eq_true rfl) rfl ?_
        show WP E ad 36 [some (.ref (ad 38)), some (.int b), some (.int z9), none, none] [] τ2
        refine s_bipush C dX7_stepRound_36 (by decide) (fun z10 tz10 => ?_)
        refine s_istore_n C dX7_stepRound_38 (by decide) (Nat.le_of_ble_eq_true rfl) rfl ?_
        show WP E ad 39 [some (.ref (ad 38)), some (.int b), some (.int z9), some (.int z10), none] [] τ2
        refine s_iconst C dX7_stepRound_39 (by decide) (fun z11 tz11 => ?_)
        refine s_istore C dX7_stepRound_40 (by decide) (Nat.le_of_ble_eq_true rfl) rfl ?_
        show WP E ad 42 [some (.ref (ad 38)), some (.int b), some (.int z9), some (.int z10), some (.int z11)] [] τ2
        exact L_stepR_1 l ad E σ τ2 (Fr.tr Fr.rf (Fr.mo h3.2.1 (by decide) (by decide))) hXτ2 b (by omega) C X 100 z9 z10 z11 (by omega) (by omega) (by omega)
      · refine s_aload_n C dX7_stepRound_26 rfl ?_
        refine s_getr (k := 2) (j := 1) C y38 fw_X7_46 rfl dX7_stepRound_27 ?_
        refine s_get (k := 1) (x := (τ2.1 1 1)) C y1 fw_X7_134 rfl rfl dX7_stepRound_30 ?_
        exact s_iret C X dX7_stepRound_33 ⟨hXτ2, (Fr.tr Fr.rf (Fr.mo h3.2.1 (by decide) (by decide))), trivial⟩
    · refine s_bipush C dX7_stepRound_18 (by decide) (fun z12 tz12 => ?_)
      exact s_iret C X dX7_stepRound_20 ⟨hXτ2, (Fr.tr Fr.rf (Fr.mo h3.2.1 (by decide) (by decide))), trivial⟩
set_option maxRecDepth 100000 in
theorem c_X7_leastWith_1 (l : Launch) (ad : Nat → Nat) (σ : Sg) (p : Int32) (n : Int32) (hX : IX σ.1) (hp : 0 ≤ p.toInt ∧ p.toInt ≤ 3) (hn : 1 ≤ n.toInt ∧ n.toInt ≤ 5) : Mt l yX7_leastWith cX7_leastWith 4 (some .int) 6 ad σ [.ref (ad 38), .int p, .int n] (oI (fun r τ => IX τ.1 ∧ Fr [52, 53, 54] [(38, 3), (38, 4), (38, 5), (38, 6), (38, 7)] σ τ ∧ True)) := by
  have hpr := hX.pr
  have hsz := hX.sz
  refine Mt_intro (by decide +kernel) (by simp [lg_sl, Value.category]) (fun E C X => ?_)
  show WP E ad 0 [some (.ref (ad 38)), some (.int p), some (.int n), none] [] σ
  refine s_aload_n C dX7_leastWith_0 rfl ?_
  refine s_callVV (st := []) C (c_X7_needSlice_1 l ad σ  hX ) cv_X7_124 y38 rfl rfl rfl ⟨by decide, by decide⟩ (Nat.le_of_ble_eq_true rfl) dX7_leastWith_1 ?_
  intro τ2 h3
  have hXτ2 := h3.1
  have hRτ2 := h3.2.2
  have prτ2 := hXτ2.pr
  have szτ2 := hXτ2.sz
  refine s_aload_n C dX7_leastWith_4 rfl ?_
  refine s_getr (k := 9) (j := 53) C y38 fw_X7_32 rfl dX7_leastWith_5 ?_
  refine s_iload_n C dX7_leastWith_8 rfl ?_
  refine s_bipush C dX7_leastWith_9 (by decide) (fun z4 tz4 => ?_)
  refine s_imulR C tz4 dX7_leastWith_11 (by omega) (fun z5 tz5 => ?_)
  refine s_iload_n C dX7_leastWith_12 rfl ?_
  refine s_iadd C dX7_leastWith_13 (by omega) (fun z6 tz6 => ?_)
  refine s_iald (r := (τ2.1 53 z6.toNatClampNeg)) C y53 (by omega) rfl dX7_leastWith_14 ?_
  refine s_istore_n C dX7_leastWith_15 (by decide) (Nat.le_of_ble_eq_true rfl) rfl ?_
  show WP E ad 16 [some (.ref (ad 38)), some (.int p), some (.int n), some (.int (τ2.1 53 z6.toNatClampNeg))] [] τ2
  refine s_iload_n C dX7_leastWith_16 rfl ?_
  refine s_iconst C dX7_leastWith_17 (by decide) (fun z7 tz7 => ?_)
  refine s_icmp_ne (tgt := 26) C dX7_leastWith_18 (by decide) (fun q8 => ?_) (fun q8 => ?_)
  · refine s_aload_n C dX7_leastWith_26 rfl ?_
    refine s_getr (k := 1) (j := 61) C y38 fw_X7_42 rfl dX7_leastWith_27 ?_
    refine s_iload_n C dX7_leastWith_30 rfl ?_
    refine s_callVI (st := []) C (c_X2_numberOf l ad τ2 ((τ2.1 53 z6.toNatClampNeg)) hXτ2) cv_X7_137 y61 rfl rfl rfl ⟨by decide, by decide⟩ (Nat.le_of_ble_eq_true rfl) dX7_leastWith_31 ?_
    intro r9 τ10 h11
    obtain ⟨eh11, h11⟩ := h11; replace eh11 := eh11.symm; subst eh11
    exact s_iret C X dX7_leastWith_34 ⟨hXτ2, (Fr.tr Fr.rf (Fr.mo h3.2.1 (by decide) (by decide))), trivial⟩
  · refine s_bipush C dX7_leastWith_21 (by decide) (fun z12 tz12 => ?_)
    refine s_goto (tgt := 34) C dX7_leastWith_23 (by decide) ?_
    exact s_iret C X dX7_leastWith_34 ⟨hXτ2, (Fr.tr Fr.rf (Fr.mo h3.2.1 (by decide) (by decide))), trivial⟩
set_option maxRecDepth 100000 in
theorem L_cmt_1_0 (l : Launch) (ad : Nat → Nat) (E : Ev) (σ : Sg) (C : Cx E l (rmk 2) 4 cX7_copyMetTo RX7) (X : Rx E ad (some .int) (oI (fun r τ => IX τ.1 ∧ Fr [58] [(40, 0)] σ τ ∧ True)))  : ∀ (n : Nat) (τ : Sg) (a : Int32) (z : Int32), (Fr [58] [(40, 0)] σ τ) → (IX τ.1) → (0 ≤ a.toInt ∧ a.toInt ≤ 20) → (0 ≤ z.toInt) → (1296 - z.toInt).toNat < n → WP E ad 17 [some (.ref (ad 38)), some (.ref (ad 40)), some (.int a), some (.int z)] [] τ := by
  intro n
  induction n with
  | zero => intro τ a z kF hXτ ha h0 hm9; exact absurd hm9 (Nat.not_lt_zero _)
  | succ n ih =>
    intro τ a z kF hXτ ha h0 hm9
    have hpr := hXτ.pr
    have hsz := hXτ.sz
    have hls := hXτ.L0
    refine s_iload_n C dX7_copyMetTo_17 rfl ?_
    refine s_aload_n C dX7_copyMetTo_18 rfl ?_
    refine s_getr (k := 1) (j := 61) C y38 fw_X7_42 rfl dX7_copyMetTo_19 ?_
    refine s_get (k := 2) (x := (τ.1 61 2)) C y61 fw_X7_62 rfl rfl dX7_copyMetTo_22 ?_
    refine s_icmp_ge (tgt := 64) C dX7_copyMetTo_25 (by decide) (fun q1 => ?_) (fun q1 => ?_)
    · refine s_aload_n C dX7_copyMetTo_64 rfl ?_
      refine s_get (k := 0) (x := (τ.1 40 0)) C y40 fw_X7_150 rfl rfl dX7_copyMetTo_65 ?_
      exact s_iret C X dX7_copyMetTo_68 ⟨hXτ, kF, trivial⟩
    · refine s_iload_n C dX7_copyMetTo_28 rfl ?_
      refine s_aload_n C dX7_copyMetTo_29 rfl ?_
      refine s_get (k := 0) (x := (τ.1 40 0)) C y40 fw_X7_150 rfl rfl dX7_copyMetTo_30 ?_
      refine s_icmp_ge (tgt := 64) C dX7_copyMetTo_33 (by decide) (fun q2 => ?_) (fun q2 => ?_)
      · refine s_aload_n C dX7_copyMetTo_64 rfl ?_
        refine s_get (k := 0) (x := (τ.1 40 0)) C y40 fw_X7_150 rfl rfl dX7_copyMetTo_65 ?_
        exact s_iret C X dX7_copyMetTo_68 ⟨hXτ, kF, trivial⟩
      · refine s_aload_n C dX7_copyMetTo_36 rfl ?_
        refine s_getr (k := 8) (j := 52) C y38 fw_X7_28 rfl dX7_copyMetTo_37 ?_
        refine s_iload_n C dX7_copyMetTo_40 rfl ?_
        refine s_iald (r := (τ.1 52 z.toNatClampNeg)) C y52 (by omega) rfl dX7_copyMetTo_41 ?_
        refine s_iconst C dX7_copyMetTo_42 (by decide) (fun z3 tz3 => ?_)
        refine s_iand C dX7_copyMetTo_43 (fun z4 tz4 => ?_)
        refine s_if_eq (tgt := 58) C dX7_copyMetTo_44 (by decide) (fun q5 => ?_) (fun q5 => ?_)
        · refine s_iinc C dX7_copyMetTo_58 rfl (by decide) rfl (by decide) (by omega) (fun z6 tz6 => ?_)
          show WP E ad 61 [some (.ref (ad 38)), some (.ref (ad 40)), some (.int a), some (.int z6)] [] τ
          refine s_goto (tgt := 17) C dX7_copyMetTo_61 (by decide) ?_
          exact ih τ a z6 (Fr.tr Fr.rf (Fr.mo kF (by decide) (by decide))) hXτ (by omega) (by omega) (by omega)
        · refine s_aload_n C dX7_copyMetTo_47 rfl ?_
          refine s_getr (k := 1) (j := 58) C y40 fw_X7_151 rfl dX7_copyMetTo_48 ?_
          refine s_iload_n C dX7_copyMetTo_51 rfl ?_
          refine s_iload_n C dX7_copyMetTo_52 rfl ?_
          refine s_i2l C dX7_copyMetTo_53 (fun L7 tL7 => ?_)
          refine s_last C y58 (by omega) dX7_copyMetTo_54 ?_
          refine s_iinc C dX7_copyMetTo_55 rfl (by decide) rfl (by decide) (by omega) (fun z8 tz8 => ?_)
          show WP E ad 58 [some (.ref (ad 38)), some (.ref (ad 40)), some (.int z8), some (.int z)] [] (sL τ 58 a.toNatClampNeg L7)
          refine s_iinc C dX7_copyMetTo_58 rfl (by decide) rfl (by decide) (by omega) (fun z9 tz9 => ?_)
          show WP E ad 61 [some (.ref (ad 38)), some (.ref (ad 40)), some (.int z8), some (.int z9)] [] (sL τ 58 a.toNatClampNeg L7)
          refine s_goto (tgt := 17) C dX7_copyMetTo_61 (by decide) ?_
          exact ih (sL τ 58 a.toNatClampNeg L7) z8 z9 (Fr.sL (Fr.tr Fr.rf (Fr.mo kF (by decide) (by decide))) (by decide)) hXτ (by omega) (by omega) (by omega)
set_option maxRecDepth 100000 in
theorem c_X7_copyMetTo_1_0 (l : Launch) (ad : Nat → Nat) (σ : Sg) (hX : IX σ.1) : Mt l yX7_copyMetTo cX7_copyMetTo 4 (some .int) 2 ad σ [.ref (ad 38), .ref (ad 40)] (oI (fun r τ => IX τ.1 ∧ Fr [58] [(40, 0)] σ τ ∧ True)) := by
  refine Mt_intro (by decide +kernel) (by simp [lg_sl, Value.category]) (fun E C X => ?_)
  show WP E ad 0 [some (.ref (ad 38)), some (.ref (ad 40)), none, none] [] σ
  refine s_aload_n C dX7_copyMetTo_0 rfl ?_
  refine s_aload_n C dX7_copyMetTo_1 rfl ?_
  refine s_get (k := 6) (x := (σ.1 38 6)) C y38 fw_X7_21 rfl rfl dX7_copyMetTo_2 ?_
  refine s_bipush C dX7_copyMetTo_5 (by decide) (fun z1 tz1 => ?_)
  refine s_mmin (idx := 140) C (mw 926 (by decide +kernel) rfl) (mw 927 (by decide +kernel) rfl) (mw 73 (by decide +kernel) rfl) (mw 928 (by decide +kernel) rfl) (by decide) (Nat.le_of_ble_eq_true rfl) dX7_copyMetTo_7 (fun z2 tz2 => ?_)
  refine s_callVV (st := []) C (c_X3_resize_0 l ad σ z2) cv_X7_145 y40 rfl rfl rfl ⟨by decide, by decide⟩ (Nat.le_of_ble_eq_true rfl) dX7_copyMetTo_10 ?_
  intro τ4 h5
  obtain ⟨LLh5, eh5⟩ := h5; subst eh5
  refine s_iconst C dX7_copyMetTo_13 (by decide) (fun z6 tz6 => ?_)
  refine s_istore_n C dX7_copyMetTo_14 (by decide) (Nat.le_of_ble_eq_true rfl) rfl ?_
  show WP E ad 15 [some (.ref (ad 38)), some (.ref (ad 40)), some (.int z6), none] [] (sQ (sV σ 40 0 z2) 58 (fun _ => LLh5))
  refine s_iconst C dX7_copyMetTo_15 (by decide) (fun z7 tz7 => ?_)
  refine s_istore_n C dX7_copyMetTo_16 (by decide) (Nat.le_of_ble_eq_true rfl) rfl ?_
  show WP E ad 17 [some (.ref (ad 38)), some (.ref (ad 40)), some (.int z6), some (.int z7)] [] (sQ (sV σ 40 0 z2) 58 (fun _ => LLh5))
  exact L_cmt_1_0 l ad E σ C X 5000 (sQ (sV σ 40 0 z2) 58 (fun _ => LLh5)) z6 z7 (Fr.sQ (Fr.sV Fr.rf (Or.inr (by decide))) (by decide)) ⟨hX.1, hX.2.1, hX.2.2.1, hX.2.2.2.1, hX.2.2.2.2.1, hX.2.2.2.2.2.1, hX.2.2.2.2.2.2.1, hX.2.2.2.2.2.2.2.1, (by show Int32.toInt z2 ≤ 20; omega), hX.2.2.2.2.2.2.2.2.2.1, hX.2.2.2.2.2.2.2.2.2.2.1, hX.2.2.2.2.2.2.2.2.2.2.2.1, hX.2.2.2.2.2.2.2.2.2.2.2.2.1, hX.2.2.2.2.2.2.2.2.2.2.2.2.2⟩ (by omega) (by omega) (by omega)
set_option maxRecDepth 100000 in
theorem L_judge_1_0 (l : Launch) (ad : Nat → Nat) (E : Ev) (σ : Sg) (hX : IX σ.1) (C : Cx E l (rmk 0) 4 cX7_judgeOf RX7) (X : Rx E ad (some .int) (oI (fun r τ => τ = σ ∧ True)))  : ∀ (n : Nat) (a : Int32) (z : Int32), (0 ≤ a.toInt ∧ a.toInt ≤ 20) → (0 ≤ z.toInt) → (1296 - z.toInt).toNat < n → WP E ad 4 [some (.ref (ad 38)), some (.ref (ad 40)), some (.int a), some (.int z)] [] σ := by
  intro n
  induction n with
  | zero => intro a z ha h0 hm9; exact absurd hm9 (Nat.not_lt_zero _)
  | succ n ih =>
    intro a z ha h0 hm9
    have hpr := hX.pr
    have hsz := hX.sz
    have hls := hX.L0
    refine s_iload_n C dX7_judgeOf_4 rfl ?_
    refine s_aload_n C dX7_judgeOf_5 rfl ?_
    refine s_getr (k := 1) (j := 61) C y38 fw_X7_42 rfl dX7_judgeOf_6 ?_
    refine s_get (k := 2) (x := (σ.1 61 2)) C y61 fw_X7_62 rfl rfl dX7_judgeOf_9 ?_
    refine s_icmp_ge (tgt := 57) C dX7_judgeOf_12 (by decide) (fun q1 => ?_) (fun q1 => ?_)
    · refine s_iload_n C dX7_judgeOf_57 rfl ?_
      refine s_aload_n C dX7_judgeOf_58 rfl ?_
      refine s_get (k := 0) (x := (σ.1 40 0)) C y40 fw_X7_150 rfl rfl dX7_judgeOf_59 ?_
      refine s_icmp_ne (tgt := 75) C dX7_judgeOf_62 (by decide) (fun q2 => ?_) (fun q2 => ?_)
      · refine s_iload_n C dX7_judgeOf_75 rfl ?_
        exact s_iret C X dX7_judgeOf_76 ⟨rfl, trivial⟩
      · refine s_bipush C dX7_judgeOf_65 (by decide) (fun z3 tz3 => ?_)
        refine s_aload_n C dX7_judgeOf_67 rfl ?_
        refine s_get (k := 0) (x := (σ.1 40 0)) C y40 fw_X7_150 rfl rfl dX7_judgeOf_68 ?_
        refine s_iaddU C dX7_judgeOf_71 (fun z4 tz4 => ?_)
        refine s_goto (tgt := 76) C dX7_judgeOf_72 (by decide) ?_
        exact s_iret C X dX7_judgeOf_76 ⟨rfl, trivial⟩
    · refine s_iload_n C dX7_judgeOf_15 rfl ?_
      refine s_aload_n C dX7_judgeOf_16 rfl ?_
      refine s_get (k := 0) (x := (σ.1 40 0)) C y40 fw_X7_150 rfl rfl dX7_judgeOf_17 ?_
      refine s_icmp_ge (tgt := 57) C dX7_judgeOf_20 (by decide) (fun q5 => ?_) (fun q5 => ?_)
      · refine s_iload_n C dX7_judgeOf_57 rfl ?_
        refine s_aload_n C dX7_judgeOf_58 rfl ?_
        refine s_get (k := 0) (x := (σ.1 40 0)) C y40 fw_X7_150 rfl rfl dX7_judgeOf_59 ?_
        refine s_icmp_ne (tgt := 75) C dX7_judgeOf_62 (by decide) (fun q6 => ?_) (fun q6 => ?_)
        · refine s_iload_n C dX7_judgeOf_75 rfl ?_
          exact s_iret C X dX7_judgeOf_76 ⟨rfl, trivial⟩
        · refine s_bipush C dX7_judgeOf_65 (by decide) (fun z7 tz7 => ?_)
          refine s_aload_n C dX7_judgeOf_67 rfl ?_
          refine s_get (k := 0) (x := (σ.1 40 0)) C y40 fw_X7_150 rfl rfl dX7_judgeOf_68 ?_
          refine s_iaddU C dX7_judgeOf_71 (fun z8 tz8 => ?_)
          refine s_goto (tgt := 76) C dX7_judgeOf_72 (by decide) ?_
          exact s_iret C X dX7_judgeOf_76 ⟨rfl, trivial⟩
      · refine s_aload_n C dX7_judgeOf_23 rfl ?_
        refine s_getr (k := 8) (j := 52) C y38 fw_X7_28 rfl dX7_judgeOf_24 ?_
        refine s_iload_n C dX7_judgeOf_27 rfl ?_
        refine s_iald (r := (σ.1 52 z.toNatClampNeg)) C y52 (by omega) rfl dX7_judgeOf_28 ?_
        refine s_iconst C dX7_judgeOf_29 (by decide) (fun z9 tz9 => ?_)
        refine s_iand C dX7_judgeOf_30 (fun z10 tz10 => ?_)
        refine s_if_eq (tgt := 51) C dX7_judgeOf_31 (by decide) (fun q11 => ?_) (fun q11 => ?_)
        · refine s_iinc C dX7_judgeOf_51 rfl (by decide) rfl (by decide) (by omega) (fun z12 tz12 => ?_)
          show WP E ad 54 [some (.ref (ad 38)), some (.ref (ad 40)), some (.int a), some (.int z12)] [] σ
          refine s_goto (tgt := 4) C dX7_judgeOf_54 (by decide) ?_
          exact ih a z12 (by omega) (by omega) (by omega)
        · refine s_aload_n C dX7_judgeOf_34 rfl ?_
          refine s_getr (k := 1) (j := 58) C y40 fw_X7_151 rfl dX7_judgeOf_35 ?_
          refine s_iload_n C dX7_judgeOf_38 rfl ?_
          refine s_lald (r := (σ.2 58 a.toNatClampNeg)) C y58 (by omega) rfl dX7_judgeOf_39 ?_
          refine s_iload_n C dX7_judgeOf_40 rfl ?_
          refine s_i2l C dX7_judgeOf_41 (fun L13 tL13 => ?_)
          refine s_lcmp C dX7_judgeOf_42 (fun z14 tz14 => ?_)
          refine s_if_eq (tgt := 48) C dX7_judgeOf_43 (by decide) (fun q15 => ?_) (fun q15 => ?_)
          · refine s_iinc C dX7_judgeOf_48 rfl (by decide) rfl (by decide) (by omega) (fun z16 tz16 => ?_)
            show WP E ad 51 [some (.ref (ad 38)), some (.ref (ad 40)), some (.int z16), some (.int z)] [] σ
            refine s_iinc C dX7_judgeOf_51 rfl (by decide) rfl (by decide) (by omega) (fun z17 tz17 => ?_)
            show WP E ad 54 [some (.ref (ad 38)), some (.ref (ad 40)), some (.int z16), some (.int z17)] [] σ
            refine s_goto (tgt := 4) C dX7_judgeOf_54 (by decide) ?_
            exact ih z16 z17 (by omega) (by omega) (by omega)
          · refine s_iload_n C dX7_judgeOf_46 rfl ?_
            exact s_iret C X dX7_judgeOf_47 ⟨rfl, trivial⟩
set_option maxRecDepth 100000 in
theorem c_X7_judgeOf_1_0 (l : Launch) (ad : Nat → Nat) (σ : Sg) (hX : IX σ.1) : Mt l yX7_judgeOf cX7_judgeOf 4 (some .int) 0 ad σ [.ref (ad 38), .ref (ad 40)] (oI (fun r τ => τ = σ ∧ True)) := by
  refine Mt_intro (by decide +kernel) (by simp [lg_sl, Value.category]) (fun E C X => ?_)
  show WP E ad 0 [some (.ref (ad 38)), some (.ref (ad 40)), none, none] [] σ
  refine s_iconst C dX7_judgeOf_0 (by decide) (fun z1 tz1 => ?_)
  refine s_istore_n C dX7_judgeOf_1 (by decide) (Nat.le_of_ble_eq_true rfl) rfl ?_
  show WP E ad 2 [some (.ref (ad 38)), some (.ref (ad 40)), some (.int z1), none] [] σ
  refine s_iconst C dX7_judgeOf_2 (by decide) (fun z2 tz2 => ?_)
  refine s_istore_n C dX7_judgeOf_3 (by decide) (Nat.le_of_ble_eq_true rfl) rfl ?_
  show WP E ad 4 [some (.ref (ad 38)), some (.ref (ad 40)), some (.int z1), some (.int z2)] [] σ
  exact L_judge_1_0 l ad E σ hX C X 5000 z1 z2 (by omega) (by omega) (by omega)
set_option maxRecDepth 100000 in
theorem L_cmt_1_1 (l : Launch) (ad : Nat → Nat) (E : Ev) (σ : Sg) (C : Cx E l (rmk 2) 4 cX7_copyMetTo RX7) (X : Rx E ad (some .int) (oI (fun r τ => IX τ.1 ∧ Fr [59] [(41, 0)] σ τ ∧ True)))  : ∀ (n : Nat) (τ : Sg) (a : Int32) (z : Int32), (Fr [59] [(41, 0)] σ τ) → (IX τ.1) → (0 ≤ a.toInt ∧ a.toInt ≤ 20) → (0 ≤ z.toInt) → (1296 - z.toInt).toNat < n → WP E ad 17 [some (.ref (ad 38)), some (.ref (ad 41)), some (.int a), some (.int z)] [] τ := by
  intro n
  induction n with
  | zero => intro τ a z kF hXτ ha h0 hm9; exact absurd hm9 (Nat.not_lt_zero _)
  | succ n ih =>
    intro τ a z kF hXτ ha h0 hm9
    have hpr := hXτ.pr
    have hsz := hXτ.sz
    have hls := hXτ.L1
    refine s_iload_n C dX7_copyMetTo_17 rfl ?_
    refine s_aload_n C dX7_copyMetTo_18 rfl ?_
    refine s_getr (k := 1) (j := 61) C y38 fw_X7_42 rfl dX7_copyMetTo_19 ?_
    refine s_get (k := 2) (x := (τ.1 61 2)) C y61 fw_X7_62 rfl rfl dX7_copyMetTo_22 ?_
    refine s_icmp_ge (tgt := 64) C dX7_copyMetTo_25 (by decide) (fun q1 => ?_) (fun q1 => ?_)
    · refine s_aload_n C dX7_copyMetTo_64 rfl ?_
      refine s_get (k := 0) (x := (τ.1 41 0)) C y41 fw_X7_150 rfl rfl dX7_copyMetTo_65 ?_
      exact s_iret C X dX7_copyMetTo_68 ⟨hXτ, kF, trivial⟩
    · refine s_iload_n C dX7_copyMetTo_28 rfl ?_
      refine s_aload_n C dX7_copyMetTo_29 rfl ?_
      refine s_get (k := 0) (x := (τ.1 41 0)) C y41 fw_X7_150 rfl rfl dX7_copyMetTo_30 ?_
      refine s_icmp_ge (tgt := 64) C dX7_copyMetTo_33 (by decide) (fun q2 => ?_) (fun q2 => ?_)
      · refine s_aload_n C dX7_copyMetTo_64 rfl ?_
        refine s_get (k := 0) (x := (τ.1 41 0)) C y41 fw_X7_150 rfl rfl dX7_copyMetTo_65 ?_
        exact s_iret C X dX7_copyMetTo_68 ⟨hXτ, kF, trivial⟩
      · refine s_aload_n C dX7_copyMetTo_36 rfl ?_
        refine s_getr (k := 8) (j := 52) C y38 fw_X7_28 rfl dX7_copyMetTo_37 ?_
        refine s_iload_n C dX7_copyMetTo_40 rfl ?_
        refine s_iald (r := (τ.1 52 z.toNatClampNeg)) C y52 (by omega) rfl dX7_copyMetTo_41 ?_
        refine s_iconst C dX7_copyMetTo_42 (by decide) (fun z3 tz3 => ?_)
        refine s_iand C dX7_copyMetTo_43 (fun z4 tz4 => ?_)
        refine s_if_eq (tgt := 58) C dX7_copyMetTo_44 (by decide) (fun q5 => ?_) (fun q5 => ?_)
        · refine s_iinc C dX7_copyMetTo_58 rfl (by decide) rfl (by decide) (by omega) (fun z6 tz6 => ?_)
          show WP E ad 61 [some (.ref (ad 38)), some (.ref (ad 41)), some (.int a), some (.int z6)] [] τ
          refine s_goto (tgt := 17) C dX7_copyMetTo_61 (by decide) ?_
          exact ih τ a z6 (Fr.tr Fr.rf (Fr.mo kF (by decide) (by decide))) hXτ (by omega) (by omega) (by omega)
        · refine s_aload_n C dX7_copyMetTo_47 rfl ?_
          refine s_getr (k := 1) (j := 59) C y41 fw_X7_151 rfl dX7_copyMetTo_48 ?_
          refine s_iload_n C dX7_copyMetTo_51 rfl ?_
          refine s_iload_n C dX7_copyMetTo_52 rfl ?_
          refine s_i2l C dX7_copyMetTo_53 (fun L7 tL7 => ?_)
          refine s_last C y59 (by omega) dX7_copyMetTo_54 ?_
          refine s_iinc C dX7_copyMetTo_55 rfl (by decide) rfl (by decide) (by omega) (fun z8 tz8 => ?_)
          show WP E ad 58 [some (.ref (ad 38)), some (.ref (ad 41)), some (.int z8), some (.int z)] [] (sL τ 59 a.toNatClampNeg L7)
          refine s_iinc C dX7_copyMetTo_58 rfl (by decide) rfl (by decide) (by omega) (fun z9 tz9 => ?_)
          show WP E ad 61 [some (.ref (ad 38)), some (.ref (ad 41)), some (.int z8), some (.int z9)] [] (sL τ 59 a.toNatClampNeg L7)
          refine s_goto (tgt := 17) C dX7_copyMetTo_61 (by decide) ?_
          exact ih (sL τ 59 a.toNatClampNeg L7) z8 z9 (Fr.sL (Fr.tr Fr.rf (Fr.mo kF (by decide) (by decide))) (by decide)) hXτ (by omega) (by omega) (by omega)
set_option maxRecDepth 100000 in
theorem c_X7_copyMetTo_1_1 (l : Launch) (ad : Nat → Nat) (σ : Sg) (hX : IX σ.1) : Mt l yX7_copyMetTo cX7_copyMetTo 4 (some .int) 2 ad σ [.ref (ad 38), .ref (ad 41)] (oI (fun r τ => IX τ.1 ∧ Fr [59] [(41, 0)] σ τ ∧ True)) := by
  refine Mt_intro (by decide +kernel) (by simp [lg_sl, Value.category]) (fun E C X => ?_)
  show WP E ad 0 [some (.ref (ad 38)), some (.ref (ad 41)), none, none] [] σ
  refine s_aload_n C dX7_copyMetTo_0 rfl ?_
  refine s_aload_n C dX7_copyMetTo_1 rfl ?_
  refine s_get (k := 6) (x := (σ.1 38 6)) C y38 fw_X7_21 rfl rfl dX7_copyMetTo_2 ?_
  refine s_bipush C dX7_copyMetTo_5 (by decide) (fun z1 tz1 => ?_)
  refine s_mmin (idx := 140) C (mw 926 (by decide +kernel) rfl) (mw 927 (by decide +kernel) rfl) (mw 73 (by decide +kernel) rfl) (mw 928 (by decide +kernel) rfl) (by decide) (Nat.le_of_ble_eq_true rfl) dX7_copyMetTo_7 (fun z2 tz2 => ?_)
  refine s_callVV (st := []) C (c_X3_resize_1 l ad σ z2) cv_X7_145 y41 rfl rfl rfl ⟨by decide, by decide⟩ (Nat.le_of_ble_eq_true rfl) dX7_copyMetTo_10 ?_
  intro τ4 h5
  obtain ⟨LLh5, eh5⟩ := h5; subst eh5
  refine s_iconst C dX7_copyMetTo_13 (by decide) (fun z6 tz6 => ?_)
  refine s_istore_n C dX7_copyMetTo_14 (by decide) (Nat.le_of_ble_eq_true rfl) rfl ?_
  show WP E ad 15 [some (.ref (ad 38)), some (.ref (ad 41)), some (.int z6), none] [] (sQ (sV σ 41 0 z2) 59 (fun _ => LLh5))
  refine s_iconst C dX7_copyMetTo_15 (by decide) (fun z7 tz7 => ?_)
  refine s_istore_n C dX7_copyMetTo_16 (by decide) (Nat.le_of_ble_eq_true rfl) rfl ?_
  show WP E ad 17 [some (.ref (ad 38)), some (.ref (ad 41)), some (.int z6), some (.int z7)] [] (sQ (sV σ 41 0 z2) 59 (fun _ => LLh5))
  exact L_cmt_1_1 l ad E σ C X 5000 (sQ (sV σ 41 0 z2) 59 (fun _ => LLh5)) z6 z7 (Fr.sQ (Fr.sV Fr.rf (Or.inr (by decide))) (by decide)) ⟨hX.1, hX.2.1, hX.2.2.1, hX.2.2.2.1, hX.2.2.2.2.1, hX.2.2.2.2.2.1, hX.2.2.2.2.2.2.1, hX.2.2.2.2.2.2.2.1, hX.2.2.2.2.2.2.2.2.1, (by show Int32.toInt z2 ≤ 20; omega), hX.2.2.2.2.2.2.2.2.2.2.1, hX.2.2.2.2.2.2.2.2.2.2.2.1, hX.2.2.2.2.2.2.2.2.2.2.2.2.1, hX.2.2.2.2.2.2.2.2.2.2.2.2.2⟩ (by omega) (by omega) (by omega)
set_option maxRecDepth 100000 in
theorem L_judge_1_1 (l : Launch) (ad : Nat → Nat) (E : Ev) (σ : Sg) (hX : IX σ.1) (C : Cx E l (rmk 0) 4 cX7_judgeOf RX7) (X : Rx E ad (some .int) (oI (fun r τ => τ = σ ∧ True)))  : ∀ (n : Nat) (a : Int32) (z : Int32), (0 ≤ a.toInt ∧ a.toInt ≤ 20) → (0 ≤ z.toInt) → (1296 - z.toInt).toNat < n → WP E ad 4 [some (.ref (ad 38)), some (.ref (ad 41)), some (.int a), some (.int z)] [] σ := by
  intro n
  induction n with
  | zero => intro a z ha h0 hm9; exact absurd hm9 (Nat.not_lt_zero _)
  | succ n ih =>
    intro a z ha h0 hm9
    have hpr := hX.pr
    have hsz := hX.sz
    have hls := hX.L1
    refine s_iload_n C dX7_judgeOf_4 rfl ?_
    refine s_aload_n C dX7_judgeOf_5 rfl ?_
    refine s_getr (k := 1) (j := 61) C y38 fw_X7_42 rfl dX7_judgeOf_6 ?_
    refine s_get (k := 2) (x := (σ.1 61 2)) C y61 fw_X7_62 rfl rfl dX7_judgeOf_9 ?_
    refine s_icmp_ge (tgt := 57) C dX7_judgeOf_12 (by decide) (fun q1 => ?_) (fun q1 => ?_)
    · refine s_iload_n C dX7_judgeOf_57 rfl ?_
      refine s_aload_n C dX7_judgeOf_58 rfl ?_
      refine s_get (k := 0) (x := (σ.1 41 0)) C y41 fw_X7_150 rfl rfl dX7_judgeOf_59 ?_
      refine s_icmp_ne (tgt := 75) C dX7_judgeOf_62 (by decide) (fun q2 => ?_) (fun q2 => ?_)
      · refine s_iload_n C dX7_judgeOf_75 rfl ?_
        exact s_iret C X dX7_judgeOf_76 ⟨rfl, trivial⟩
      · refine s_bipush C dX7_judgeOf_65 (by decide) (fun z3 tz3 => ?_)
        refine s_aload_n C dX7_judgeOf_67 rfl ?_
        refine s_get (k := 0) (x := (σ.1 41 0)) C y41 fw_X7_150 rfl rfl dX7_judgeOf_68 ?_
        refine s_iaddU C dX7_judgeOf_71 (fun z4 tz4 => ?_)
        refine s_goto (tgt := 76) C dX7_judgeOf_72 (by decide) ?_
        exact s_iret C X dX7_judgeOf_76 ⟨rfl, trivial⟩
    · refine s_iload_n C dX7_judgeOf_15 rfl ?_
      refine s_aload_n C dX7_judgeOf_16 rfl ?_
      refine s_get (k := 0) (x := (σ.1 41 0)) C y41 fw_X7_150 rfl rfl dX7_judgeOf_17 ?_
      refine s_icmp_ge (tgt := 57) C dX7_judgeOf_20 (by decide) (fun q5 => ?_) (fun q5 => ?_)
      · refine s_iload_n C dX7_judgeOf_57 rfl ?_
        refine s_aload_n C dX7_judgeOf_58 rfl ?_
        refine s_get (k := 0) (x := (σ.1 41 0)) C y41 fw_X7_150 rfl rfl dX7_judgeOf_59 ?_
        refine s_icmp_ne (tgt := 75) C dX7_judgeOf_62 (by decide) (fun q6 => ?_) (fun q6 => ?_)
        · refine s_iload_n C dX7_judgeOf_75 rfl ?_
          exact s_iret C X dX7_judgeOf_76 ⟨rfl, trivial⟩
        · refine s_bipush C dX7_judgeOf_65 (by decide) (fun z7 tz7 => ?_)
          refine s_aload_n C dX7_judgeOf_67 rfl ?_
          refine s_get (k := 0) (x := (σ.1 41 0)) C y41 fw_X7_150 rfl rfl dX7_judgeOf_68 ?_
          refine s_iaddU C dX7_judgeOf_71 (fun z8 tz8 => ?_)
          refine s_goto (tgt := 76) C dX7_judgeOf_72 (by decide) ?_
          exact s_iret C X dX7_judgeOf_76 ⟨rfl, trivial⟩
      · refine s_aload_n C dX7_judgeOf_23 rfl ?_
        refine s_getr (k := 8) (j := 52) C y38 fw_X7_28 rfl dX7_judgeOf_24 ?_
        refine s_iload_n C dX7_judgeOf_27 rfl ?_
        refine s_iald (r := (σ.1 52 z.toNatClampNeg)) C y52 (by omega) rfl dX7_judgeOf_28 ?_
        refine s_iconst C dX7_judgeOf_29 (by decide) (fun z9 tz9 => ?_)
        refine s_iand C dX7_judgeOf_30 (fun z10 tz10 => ?_)
        refine s_if_eq (tgt := 51) C dX7_judgeOf_31 (by decide) (fun q11 => ?_) (fun q11 => ?_)
        · refine s_iinc C dX7_judgeOf_51 rfl (by decide) rfl (by decide) (by omega) (fun z12 tz12 => ?_)
          show WP E ad 54 [some (.ref (ad 38)), some (.ref (ad 41)), some (.int a), some (.int z12)] [] σ
          refine s_goto (tgt := 4) C dX7_judgeOf_54 (by decide) ?_
          exact ih a z12 (by omega) (by omega) (by omega)
        · refine s_aload_n C dX7_judgeOf_34 rfl ?_
          refine s_getr (k := 1) (j := 59) C y41 fw_X7_151 rfl dX7_judgeOf_35 ?_
          refine s_iload_n C dX7_judgeOf_38 rfl ?_
          refine s_lald (r := (σ.2 59 a.toNatClampNeg)) C y59 (by omega) rfl dX7_judgeOf_39 ?_
          refine s_iload_n C dX7_judgeOf_40 rfl ?_
          refine s_i2l C dX7_judgeOf_41 (fun L13 tL13 => ?_)
          refine s_lcmp C dX7_judgeOf_42 (fun z14 tz14 => ?_)
          refine s_if_eq (tgt := 48) C dX7_judgeOf_43 (by decide) (fun q15 => ?_) (fun q15 => ?_)
          · refine s_iinc C dX7_judgeOf_48 rfl (by decide) rfl (by decide) (by omega) (fun z16 tz16 => ?_)
            show WP E ad 51 [some (.ref (ad 38)), some (.ref (ad 41)), some (.int z16), some (.int z)] [] σ
            refine s_iinc C dX7_judgeOf_51 rfl (by decide) rfl (by decide) (by omega) (fun z17 tz17 => ?_)
            show WP E ad 54 [some (.ref (ad 38)), some (.ref (ad 41)), some (.int z16), some (.int z17)] [] σ
            refine s_goto (tgt := 4) C dX7_judgeOf_54 (by decide) ?_
            exact ih z16 z17 (by omega) (by omega) (by omega)
          · refine s_iload_n C dX7_judgeOf_46 rfl ?_
            exact s_iret C X dX7_judgeOf_47 ⟨rfl, trivial⟩
set_option maxRecDepth 100000 in
theorem c_X7_judgeOf_1_1 (l : Launch) (ad : Nat → Nat) (σ : Sg) (hX : IX σ.1) : Mt l yX7_judgeOf cX7_judgeOf 4 (some .int) 0 ad σ [.ref (ad 38), .ref (ad 41)] (oI (fun r τ => τ = σ ∧ True)) := by
  refine Mt_intro (by decide +kernel) (by simp [lg_sl, Value.category]) (fun E C X => ?_)
  show WP E ad 0 [some (.ref (ad 38)), some (.ref (ad 41)), none, none] [] σ
  refine s_iconst C dX7_judgeOf_0 (by decide) (fun z1 tz1 => ?_)
  refine s_istore_n C dX7_judgeOf_1 (by decide) (Nat.le_of_ble_eq_true rfl) rfl ?_
  show WP E ad 2 [some (.ref (ad 38)), some (.ref (ad 41)), some (.int z1), none] [] σ
  refine s_iconst C dX7_judgeOf_2 (by decide) (fun z2 tz2 => ?_)
  refine s_istore_n C dX7_judgeOf_3 (by decide) (Nat.le_of_ble_eq_true rfl) rfl ?_
  show WP E ad 4 [some (.ref (ad 38)), some (.ref (ad 41)), some (.int z1), some (.int z2)] [] σ
  exact L_judge_1_1 l ad E σ hX C X 5000 z1 z2 (by omega) (by omega) (by omega)
set_option maxRecDepth 100000 in
theorem L_cmt_1_2 (l : Launch) (ad : Nat → Nat) (E : Ev) (σ : Sg) (C : Cx E l (rmk 2) 4 cX7_copyMetTo RX7) (X : Rx E ad (some .int) (oI (fun r τ => IX τ.1 ∧ Fr [60] [(42, 0)] σ τ ∧ True)))  : ∀ (n : Nat) (τ : Sg) (a : Int32) (z : Int32), (Fr [60] [(42, 0)] σ τ) → (IX τ.1) → (0 ≤ a.toInt ∧ a.toInt ≤ 20) → (0 ≤ z.toInt) → (1296 - z.toInt).toNat < n → WP E ad 17 [some (.ref (ad 38)), some (.ref (ad 42)), some (.int a), some (.int z)] [] τ := by
  intro n
  induction n with
  | zero => intro τ a z kF hXτ ha h0 hm9; exact absurd hm9 (Nat.not_lt_zero _)
  | succ n ih =>
    intro τ a z kF hXτ ha h0 hm9
    have hpr := hXτ.pr
    have hsz := hXτ.sz
    have hls := hXτ.L2
    refine s_iload_n C dX7_copyMetTo_17 rfl ?_
    refine s_aload_n C dX7_copyMetTo_18 rfl ?_
    refine s_getr (k := 1) (j := 61) C y38 fw_X7_42 rfl dX7_copyMetTo_19 ?_
    refine s_get (k := 2) (x := (τ.1 61 2)) C y61 fw_X7_62 rfl rfl dX7_copyMetTo_22 ?_
    refine s_icmp_ge (tgt := 64) C dX7_copyMetTo_25 (by decide) (fun q1 => ?_) (fun q1 => ?_)
    · refine s_aload_n C dX7_copyMetTo_64 rfl ?_
      refine s_get (k := 0) (x := (τ.1 42 0)) C y42 fw_X7_150 rfl rfl dX7_copyMetTo_65 ?_
      exact s_iret C X dX7_copyMetTo_68 ⟨hXτ, kF, trivial⟩
    · refine s_iload_n C dX7_copyMetTo_28 rfl ?_
      refine s_aload_n C dX7_copyMetTo_29 rfl ?_
      refine s_get (k := 0) (x := (τ.1 42 0)) C y42 fw_X7_150 rfl rfl dX7_copyMetTo_30 ?_
      refine s_icmp_ge (tgt := 64) C dX7_copyMetTo_33 (by decide) (fun q2 => ?_) (fun q2 => ?_)
      · refine s_aload_n C dX7_copyMetTo_64 rfl ?_
        refine s_get (k := 0) (x := (τ.1 42 0)) C y42 fw_X7_150 rfl rfl dX7_copyMetTo_65 ?_
        exact s_iret C X dX7_copyMetTo_68 ⟨hXτ, kF, trivial⟩
      · refine s_aload_n C dX7_copyMetTo_36 rfl ?_
        refine s_getr (k := 8) (j := 52) C y38 fw_X7_28 rfl dX7_copyMetTo_37 ?_
        refine s_iload_n C dX7_copyMetTo_40 rfl ?_
        refine s_iald (r := (τ.1 52 z.toNatClampNeg)) C y52 (by omega) rfl dX7_copyMetTo_41 ?_
        refine s_iconst C dX7_copyMetTo_42 (by decide) (fun z3 tz3 => ?_)
        refine s_iand C dX7_copyMetTo_43 (fun z4 tz4 => ?_)
        refine s_if_eq (tgt := 58) C dX7_copyMetTo_44 (by decide) (fun q5 => ?_) (fun q5 => ?_)
        · refine s_iinc C dX7_copyMetTo_58 rfl (by decide) rfl (by decide) (by omega) (fun z6 tz6 => ?_)
          show WP E ad 61 [some (.ref (ad 38)), some (.ref (ad 42)), some (.int a), some (.int z6)] [] τ
          refine s_goto (tgt := 17) C dX7_copyMetTo_61 (by decide) ?_
          exact ih τ a z6 (Fr.tr Fr.rf (Fr.mo kF (by decide) (by decide))) hXτ (by omega) (by omega) (by omega)
        · refine s_aload_n C dX7_copyMetTo_47 rfl ?_
          refine s_getr (k := 1) (j := 60) C y42 fw_X7_151 rfl dX7_copyMetTo_48 ?_
          refine s_iload_n C dX7_copyMetTo_51 rfl ?_
          refine s_iload_n C dX7_copyMetTo_52 rfl ?_
          refine s_i2l C dX7_copyMetTo_53 (fun L7 tL7 => ?_)
          refine s_last C y60 (by omega) dX7_copyMetTo_54 ?_
          refine s_iinc C dX7_copyMetTo_55 rfl (by decide) rfl (by decide) (by omega) (fun z8 tz8 => ?_)
          show WP E ad 58 [some (.ref (ad 38)), some (.ref (ad 42)), some (.int z8), some (.int z)] [] (sL τ 60 a.toNatClampNeg L7)
          refine s_iinc C dX7_copyMetTo_58 rfl (by decide) rfl (by decide) (by omega) (fun z9 tz9 => ?_)
          show WP E ad 61 [some (.ref (ad 38)), some (.ref (ad 42)), some (.int z8), some (.int z9)] [] (sL τ 60 a.toNatClampNeg L7)
          refine s_goto (tgt := 17) C dX7_copyMetTo_61 (by decide) ?_
          exact ih (sL τ 60 a.toNatClampNeg L7) z8 z9 (Fr.sL (Fr.tr Fr.rf (Fr.mo kF (by decide) (by decide))) (by decide)) hXτ (by omega) (by omega) (by omega)
set_option maxRecDepth 100000 in
theorem c_X7_copyMetTo_1_2 (l : Launch) (ad : Nat → Nat) (σ : Sg) (hX : IX σ.1) : Mt l yX7_copyMetTo cX7_copyMetTo 4 (some .int) 2 ad σ [.ref (ad 38), .ref (ad 42)] (oI (fun r τ => IX τ.1 ∧ Fr [60] [(42, 0)] σ τ ∧ True)) := by
  refine Mt_intro (by decide +kernel) (by simp [lg_sl, Value.category]) (fun E C X => ?_)
  show WP E ad 0 [some (.ref (ad 38)), some (.ref (ad 42)), none, none] [] σ
  refine s_aload_n C dX7_copyMetTo_0 rfl ?_
  refine s_aload_n C dX7_copyMetTo_1 rfl ?_
  refine s_get (k := 6) (x := (σ.1 38 6)) C y38 fw_X7_21 rfl rfl dX7_copyMetTo_2 ?_
  refine s_bipush C dX7_copyMetTo_5 (by decide) (fun z1 tz1 => ?_)
  refine s_mmin (idx := 140) C (mw 926 (by decide +kernel) rfl) (mw 927 (by decide +kernel) rfl) (mw 73 (by decide +kernel) rfl) (mw 928 (by decide +kernel) rfl) (by decide) (Nat.le_of_ble_eq_true rfl) dX7_copyMetTo_7 (fun z2 tz2 => ?_)
  refine s_callVV (st := []) C (c_X3_resize_2 l ad σ z2) cv_X7_145 y42 rfl rfl rfl ⟨by decide, by decide⟩ (Nat.le_of_ble_eq_true rfl) dX7_copyMetTo_10 ?_
  intro τ4 h5
  obtain ⟨LLh5, eh5⟩ := h5; subst eh5
  refine s_iconst C dX7_copyMetTo_13 (by decide) (fun z6 tz6 => ?_)
  refine s_istore_n C dX7_copyMetTo_14 (by decide) (Nat.le_of_ble_eq_true rfl) rfl ?_
  show WP E ad 15 [some (.ref (ad 38)), some (.ref (ad 42)), some (.int z6), none] [] (sQ (sV σ 42 0 z2) 60 (fun _ => LLh5))
  refine s_iconst C dX7_copyMetTo_15 (by decide) (fun z7 tz7 => ?_)
  refine s_istore_n C dX7_copyMetTo_16 (by decide) (Nat.le_of_ble_eq_true rfl) rfl ?_
  show WP E ad 17 [some (.ref (ad 38)), some (.ref (ad 42)), some (.int z6), some (.int z7)] [] (sQ (sV σ 42 0 z2) 60 (fun _ => LLh5))
  exact L_cmt_1_2 l ad E σ C X 5000 (sQ (sV σ 42 0 z2) 60 (fun _ => LLh5)) z6 z7 (Fr.sQ (Fr.sV Fr.rf (Or.inr (by decide))) (by decide)) ⟨hX.1, hX.2.1, hX.2.2.1, hX.2.2.2.1, hX.2.2.2.2.1, hX.2.2.2.2.2.1, hX.2.2.2.2.2.2.1, hX.2.2.2.2.2.2.2.1, hX.2.2.2.2.2.2.2.2.1, hX.2.2.2.2.2.2.2.2.2.1, (by show Int32.toInt z2 ≤ 20; omega), hX.2.2.2.2.2.2.2.2.2.2.2.1, hX.2.2.2.2.2.2.2.2.2.2.2.2.1, hX.2.2.2.2.2.2.2.2.2.2.2.2.2⟩ (by omega) (by omega) (by omega)
set_option maxRecDepth 100000 in
theorem L_judge_1_2 (l : Launch) (ad : Nat → Nat) (E : Ev) (σ : Sg) (hX : IX σ.1) (C : Cx E l (rmk 0) 4 cX7_judgeOf RX7) (X : Rx E ad (some .int) (oI (fun r τ => τ = σ ∧ True)))  : ∀ (n : Nat) (a : Int32) (z : Int32), (0 ≤ a.toInt ∧ a.toInt ≤ 20) → (0 ≤ z.toInt) → (1296 - z.toInt).toNat < n → WP E ad 4 [some (.ref (ad 38)), some (.ref (ad 42)), some (.int a), some (.int z)] [] σ := by
  intro n
  induction n with
  | zero => intro a z ha h0 hm9; exact absurd hm9 (Nat.not_lt_zero _)
  | succ n ih =>
    intro a z ha h0 hm9
    have hpr := hX.pr
    have hsz := hX.sz
    have hls := hX.L2
    refine s_iload_n C dX7_judgeOf_4 rfl ?_
    refine s_aload_n C dX7_judgeOf_5 rfl ?_
    refine s_getr (k := 1) (j := 61) C y38 fw_X7_42 rfl dX7_judgeOf_6 ?_
    refine s_get (k := 2) (x := (σ.1 61 2)) C y61 fw_X7_62 rfl rfl dX7_judgeOf_9 ?_
    refine s_icmp_ge (tgt := 57) C dX7_judgeOf_12 (by decide) (fun q1 => ?_) (fun q1 => ?_)
    · refine s_iload_n C dX7_judgeOf_57 rfl ?_
      refine s_aload_n C dX7_judgeOf_58 rfl ?_
      refine s_get (k := 0) (x := (σ.1 42 0)) C y42 fw_X7_150 rfl rfl dX7_judgeOf_59 ?_
      refine s_icmp_ne (tgt := 75) C dX7_judgeOf_62 (by decide) (fun q2 => ?_) (fun q2 => ?_)
      · refine s_iload_n C dX7_judgeOf_75 rfl ?_
        exact s_iret C X dX7_judgeOf_76 ⟨rfl, trivial⟩
      · refine s_bipush C dX7_judgeOf_65 (by decide) (fun z3 tz3 => ?_)
        refine s_aload_n C dX7_judgeOf_67 rfl ?_
        refine s_get (k := 0) (x := (σ.1 42 0)) C y42 fw_X7_150 rfl rfl dX7_judgeOf_68 ?_
        refine s_iaddU C dX7_judgeOf_71 (fun z4 tz4 => ?_)
        refine s_goto (tgt := 76) C dX7_judgeOf_72 (by decide) ?_
        exact s_iret C X dX7_judgeOf_76 ⟨rfl, trivial⟩
    · refine s_iload_n C dX7_judgeOf_15 rfl ?_
      refine s_aload_n C dX7_judgeOf_16 rfl ?_
      refine s_get (k := 0) (x := (σ.1 42 0)) C y42 fw_X7_150 rfl rfl dX7_judgeOf_17 ?_
      refine s_icmp_ge (tgt := 57) C dX7_judgeOf_20 (by decide) (fun q5 => ?_) (fun q5 => ?_)
      · refine s_iload_n C dX7_judgeOf_57 rfl ?_
        refine s_aload_n C dX7_judgeOf_58 rfl ?_
        refine s_get (k := 0) (x := (σ.1 42 0)) C y42 fw_X7_150 rfl rfl dX7_judgeOf_59 ?_
        refine s_icmp_ne (tgt := 75) C dX7_judgeOf_62 (by decide) (fun q6 => ?_) (fun q6 => ?_)
        · refine s_iload_n C dX7_judgeOf_75 rfl ?_
          exact s_iret C X dX7_judgeOf_76 ⟨rfl, trivial⟩
        · refine s_bipush C dX7_judgeOf_65 (by decide) (fun z7 tz7 => ?_)
          refine s_aload_n C dX7_judgeOf_67 rfl ?_
          refine s_get (k := 0) (x := (σ.1 42 0)) C y42 fw_X7_150 rfl rfl dX7_judgeOf_68 ?_
          refine s_iaddU C dX7_judgeOf_71 (fun z8 tz8 => ?_)
          refine s_goto (tgt := 76) C dX7_judgeOf_72 (by decide) ?_
          exact s_iret C X dX7_judgeOf_76 ⟨rfl, trivial⟩
      · refine s_aload_n C dX7_judgeOf_23 rfl ?_
        refine s_getr (k := 8) (j := 52) C y38 fw_X7_28 rfl dX7_judgeOf_24 ?_
        refine s_iload_n C dX7_judgeOf_27 rfl ?_
        refine s_iald (r := (σ.1 52 z.toNatClampNeg)) C y52 (by omega) rfl dX7_judgeOf_28 ?_
        refine s_iconst C dX7_judgeOf_29 (by decide) (fun z9 tz9 => ?_)
        refine s_iand C dX7_judgeOf_30 (fun z10 tz10 => ?_)
        refine s_if_eq (tgt := 51) C dX7_judgeOf_31 (by decide) (fun q11 => ?_) (fun q11 => ?_)
        · refine s_iinc C dX7_judgeOf_51 rfl (by decide) rfl (by decide) (by omega) (fun z12 tz12 => ?_)
          show WP E ad 54 [some (.ref (ad 38)), some (.ref (ad 42)), some (.int a), some (.int z12)] [] σ
          refine s_goto (tgt := 4) C dX7_judgeOf_54 (by decide) ?_
          exact ih a z12 (by omega) (by omega) (by omega)
        · refine s_aload_n C dX7_judgeOf_34 rfl ?_
          refine s_getr (k := 1) (j := 60) C y42 fw_X7_151 rfl dX7_judgeOf_35 ?_
          refine s_iload_n C dX7_judgeOf_38 rfl ?_
          refine s_lald (r := (σ.2 60 a.toNatClampNeg)) C y60 (by omega) rfl dX7_judgeOf_39 ?_
          refine s_iload_n C dX7_judgeOf_40 rfl ?_
          refine s_i2l C dX7_judgeOf_41 (fun L13 tL13 => ?_)
          refine s_lcmp C dX7_judgeOf_42 (fun z14 tz14 => ?_)
          refine s_if_eq (tgt := 48) C dX7_judgeOf_43 (by decide) (fun q15 => ?_) (fun q15 => ?_)
          · refine s_iinc C dX7_judgeOf_48 rfl (by decide) rfl (by decide) (by omega) (fun z16 tz16 => ?_)
            show WP E ad 51 [some (.ref (ad 38)), some (.ref (ad 42)), some (.int z16), some (.int z)] [] σ
            refine s_iinc C dX7_judgeOf_51 rfl (by decide) rfl (by decide) (by omega) (fun z17 tz17 => ?_)
            show WP E ad 54 [some (.ref (ad 38)), some (.ref (ad 42)), some (.int z16), some (.int z17)] [] σ
            refine s_goto (tgt := 4) C dX7_judgeOf_54 (by decide) ?_
            exact ih z16 z17 (by omega) (by omega) (by omega)
          · refine s_iload_n C dX7_judgeOf_46 rfl ?_
            exact s_iret C X dX7_judgeOf_47 ⟨rfl, trivial⟩
set_option maxRecDepth 100000 in
theorem c_X7_judgeOf_1_2 (l : Launch) (ad : Nat → Nat) (σ : Sg) (hX : IX σ.1) : Mt l yX7_judgeOf cX7_judgeOf 4 (some .int) 0 ad σ [.ref (ad 38), .ref (ad 42)] (oI (fun r τ => τ = σ ∧ True)) := by
  refine Mt_intro (by decide +kernel) (by simp [lg_sl, Value.category]) (fun E C X => ?_)
  show WP E ad 0 [some (.ref (ad 38)), some (.ref (ad 42)), none, none] [] σ
  refine s_iconst C dX7_judgeOf_0 (by decide) (fun z1 tz1 => ?_)
  refine s_istore_n C dX7_judgeOf_1 (by decide) (Nat.le_of_ble_eq_true rfl) rfl ?_
  show WP E ad 2 [some (.ref (ad 38)), some (.ref (ad 42)), some (.int z1), none] [] σ
  refine s_iconst C dX7_judgeOf_2 (by decide) (fun z2 tz2 => ?_)
  refine s_istore_n C dX7_judgeOf_3 (by decide) (Nat.le_of_ble_eq_true rfl) rfl ?_
  show WP E ad 4 [some (.ref (ad 38)), some (.ref (ad 42)), some (.int z1), some (.int z2)] [] σ
  exact L_judge_1_2 l ad E σ hX C X 5000 z1 z2 (by omega) (by omega) (by omega)
set_option maxRecDepth 100000 in
theorem L_pstep_2 (l : Launch) (ad : Nat → Nat) (E : Ev) (σ : Sg) (hX : IX σ.1) (i : Int32) (hi : 0 ≤ i.toInt ∧ i.toInt ≤ 1295) (C : Cx E l (rmk 2) 4 cX7_passableStep RX7) (X : Rx E ad (some .int) (oI (fun r τ => τ = σ ∧ (-1 ≤ r.toInt ∧ r.toInt < (σ.1 1 0).toInt))))  : ∀ (n : Nat) (z : Int32), (0 ≤ z.toInt) → (4 - z.toInt).toNat < n → WP E ad 2 [some (.ref (ad 39)), some (.int i), some (.int z), none] [] σ := by
  intro n
  induction n with
  | zero => intro z h0 hm9; exact absurd hm9 (Nat.not_lt_zero _)
  | succ n ih =>
    intro z h0 hm9
    have hpr := hX.pr
    have hsz := hX.sz
    refine s_iload_n C dX7_passableStep_2 rfl ?_
    refine s_aload_n C dX7_passableStep_3 rfl ?_
    refine s_getr (k := 2) (j := 1) C y39 fw_X7_46 rfl dX7_passableStep_4 ?_
    refine s_get (k := 0) (x := (σ.1 1 0)) C y1 fw_X7_80 rfl rfl dX7_passableStep_7 ?_
    refine s_icmp_ge (tgt := 46) C dX7_passableStep_10 (by decide) (fun q1 => ?_) (fun q1 => ?_)
    · refine s_iconst C dX7_passableStep_46 (by decide) (fun z2 tz2 => ?_)
      exact s_iret C X dX7_passableStep_47 ⟨rfl, by omega⟩
    · refine s_aload_n C dX7_passableStep_13 rfl ?_
      refine s_getr (k := 1) (j := 61) C y39 fw_X7_42 rfl dX7_passableStep_14 ?_
      refine s_iload_n C dX7_passableStep_17 rfl ?_
      refine s_iload_n C dX7_passableStep_18 rfl ?_
      refine s_callVI (st := []) C (c_X2_successor l ad σ i z hX (by omega) (by omega)) cv_X7_85 y61 rfl rfl rfl ⟨by decide, by decide⟩ (Nat.le_of_ble_eq_true rfl) dX7_passableStep_19 ?_
      intro r3 τ4 h5
      obtain ⟨eh5, h5⟩ := h5; replace eh5 := eh5.symm; subst eh5
      refine s_istore_n C dX7_passableStep_22 (by decide) (Nat.le_of_ble_eq_true rfl) rfl ?_
      show WP E ad 23 [some (.ref (ad 39)), some (.int i), some (.int z), some (.int r3)] [] σ
      refine s_iload_n C dX7_passableStep_23 rfl ?_
      refine s_if_lt (tgt := 40) C dX7_passableStep_24 (by decide) (fun q6 => ?_) (fun q6 => ?_)
      · refine s_iinc C dX7_passableStep_40 rfl (by decide) rfl (by decide) (by omega) (fun z7 tz7 => ?_)
        show WP E ad 43 [some (.ref (ad 39)), some (.int i), some (.int z7), some (.int r3)] [] σ
        refine s_goto (tgt := 2) C dX7_passableStep_43 (by decide) ?_
        refine wp_le (lv' := [some (.ref (ad 39)), some (.int i), some (.int z7), none]) ⟨rfl, ⟨rfl, ⟨rfl, trivial⟩⟩⟩ ?_
        exact ih z7 (by omega) (by omega)
      · refine s_aload_n C dX7_passableStep_27 rfl ?_
        refine s_getr (k := 8) (j := 55) C y39 fw_X7_28 rfl dX7_passableStep_28 ?_
        refine s_iload_n C dX7_passableStep_31 rfl ?_
        refine s_iald (r := (σ.1 55 r3.toNatClampNeg)) C y55 (by omega) rfl dX7_passableStep_32 ?_
        refine s_iconst C dX7_passableStep_33 (by decide) (fun z8 tz8 => ?_)
        refine s_iand C dX7_passableStep_34 (fun z9 tz9 => ?_)
        refine s_if_eq (tgt := 40) C dX7_passableStep_35 (by decide) (fun q10 => ?_) (fun q10 => ?_)
        · refine s_iinc C dX7_passableStep_40 rfl (by decide) rfl (by decide) (by omega) (fun z11 tz11 => ?_)
          show WP E ad 43 [some (.ref (ad 39)), some (.int i), some (.int z11), some (.int r3)] [] σ
          refine s_goto (tgt := 2) C dX7_passableStep_43 (by decide) ?_
          refine wp_le (lv' := [some (.ref (ad 39)), some (.int i), some (.int z11), none]) ⟨rfl, ⟨rfl, ⟨rfl, trivial⟩⟩⟩ ?_
          exact ih z11 (by omega) (by omega)
        · refine s_iload_n C dX7_passableStep_38 rfl ?_
          exact s_iret C X dX7_passableStep_39 ⟨rfl, by omega⟩
set_option maxRecDepth 100000 in
theorem c_X7_passableStep_2 (l : Launch) (ad : Nat → Nat) (σ : Sg) (i : Int32) (hX : IX σ.1) (hi : 0 ≤ i.toInt ∧ i.toInt ≤ 1295) : Mt l yX7_passableStep cX7_passableStep 4 (some .int) 2 ad σ [.ref (ad 39), .int i] (oI (fun r τ => τ = σ ∧ (-1 ≤ r.toInt ∧ r.toInt < (σ.1 1 0).toInt))) := by
  have hpr := hX.pr
  have hsz := hX.sz
  refine Mt_intro (by decide +kernel) (by simp [lg_sl, Value.category]) (fun E C X => ?_)
  show WP E ad 0 [some (.ref (ad 39)), some (.int i), none, none] [] σ
  refine s_iconst C dX7_passableStep_0 (by decide) (fun z1 tz1 => ?_)
  refine s_istore_n C dX7_passableStep_1 (by decide) (Nat.le_of_ble_eq_true rfl) rfl ?_
  show WP E ad 2 [some (.ref (ad 39)), some (.int i), some (.int z1), none] [] σ
  exact L_pstep_2 l ad E σ hX i hi C X 100 z1 (by omega) (by omega)
set_option maxRecDepth 100000 in
theorem L_flagMet_2 (l : Launch) (ad : Nat → Nat) (E : Ev) (σ : Sg) (C : Cx E l (rmk 4) 3 cX7_flagMet RX7) (X : Rx E ad none (oV (fun τ => IX τ.1 ∧ Fr [55, 56, 57] [(39, 3), (39, 4), (39, 5), (39, 6), (39, 7)] σ τ ∧ True)))  : ∀ (n : Nat) (τ : Sg) (z : Int32), (Fr [55, 56, 57] [(39, 3), (39, 4), (39, 5), (39, 6), (39, 7)] σ τ) → (IX τ.1) → (0 ≤ z.toInt) → (1296 - z.toInt).toNat < n → WP E ad 7 [some (.ref (ad 39)), some (.int z), none] [] τ := by
  intro n
  induction n with
  | zero => intro τ z kF hXτ h0 hm9; exact absurd hm9 (Nat.not_lt_zero _)
  | succ n ih =>
    intro τ z kF hXτ h0 hm9
    have hpr := hXτ.pr
    have hsz := hXτ.sz
    refine s_iload_n C dX7_flagMet_7 rfl ?_
    refine s_aload_n C dX7_flagMet_8 rfl ?_
    refine s_getr (k := 1) (j := 61) C y39 fw_X7_42 rfl dX7_flagMet_9 ?_
    refine s_get (k := 2) (x := (τ.1 61 2)) C y61 fw_X7_62 rfl rfl dX7_flagMet_12 ?_
    refine s_icmp_ge (tgt := 82) C dX7_flagMet_15 (by decide) (fun q1 => ?_) (fun q1 => ?_)
    · exact s_vret C X dX7_flagMet_82 ⟨hXτ, kF, trivial⟩
    · refine s_aload_n C dX7_flagMet_18 rfl ?_
      refine s_getr (k := 0) (j := 33) C y39 fw_X7_38 rfl dX7_flagMet_19 ?_
      refine s_aload_n C dX7_flagMet_22 rfl ?_
      refine s_getr (k := 2) (j := 1) C y39 fw_X7_46 rfl dX7_flagMet_23 ?_
      refine s_aload_n C dX7_flagMet_26 rfl ?_
      refine s_getr (k := 1) (j := 61) C y39 fw_X7_42 rfl dX7_flagMet_27 ?_
      refine s_getr (k := 3) (j := 62) C y61 fw_X7_67 rfl dX7_flagMet_30 ?_
      refine s_iload_n C dX7_flagMet_33 rfl ?_
      refine s_iald (r := (τ.1 62 z.toNatClampNeg)) C y62 (by omega) rfl dX7_flagMet_34 ?_
      refine s_aload_n C dX7_flagMet_35 rfl ?_
      refine s_getr (k := 10) (j := 57) C y39 fw_X7_35 rfl dX7_flagMet_36 ?_
      refine s_callVI (st := []) C (c_X0_isMet_2 l ad τ ((τ.1 62 z.toNatClampNeg)) hXτ (hXτ.rw _)) cv_X7_70 y33 rfl rfl rfl ⟨by decide, by decide⟩ (Nat.le_of_ble_eq_true rfl) dX7_flagMet_39 ?_
      intro r2 τ3 h4
      have bh4 := h4.2
      have hXτ3 : IX τ3.1 := IX.keep hXτ h4.1 (by decide) (by decide) (by decide)
      refine s_istore_n C dX7_flagMet_42 (by decide) (Nat.le_of_ble_eq_true rfl) rfl ?_
      show WP E ad 43 [some (.ref (ad 39)), some (.int z), some (.int r2)] [] τ3
      refine s_aload_n C dX7_flagMet_43 rfl ?_
      refine s_getr (k := 8) (j := 55) C y39 fw_X7_28 rfl dX7_flagMet_44 ?_
      refine s_iload_n C dX7_flagMet_47 rfl ?_
      refine s_iload_n C dX7_flagMet_48 rfl ?_
      refine s_if_eq (tgt := 56) C dX7_flagMet_49 (by decide) (fun q5 => ?_) (fun q5 => ?_)
      · refine s_iconst C dX7_flagMet_56 (by decide) (fun z6 tz6 => ?_)
        refine s_iast C y55 (by omega) dX7_flagMet_57 ?_
        refine s_aload_n C dX7_flagMet_58 rfl ?_
        refine s_dup C dX7_flagMet_59 rfl ?_
        refine s_get (k := 6) (x := (τ3.1 39 6)) C y39 fw_X7_21 rfl rfl dX7_flagMet_60 ?_
        refine s_iload_n C dX7_flagMet_63 rfl ?_
        refine s_if_eq (tgt := 71) C dX7_flagMet_64 (by decide) (fun q7 => ?_) (fun q7 => ?_)
        · refine s_iconst C dX7_flagMet_71 (by decide) (fun z8 tz8 => ?_)
          refine s_iaddU C dX7_flagMet_72 (fun z9 tz9 => ?_)
          refine s_put (k := 6) C y39 fw_X7_21 fp_6_6 rfl dX7_flagMet_73 ?_
          refine s_iinc C dX7_flagMet_76 rfl (by decide) rfl (by decide) (by omega) (fun z10 tz10 => ?_)
          show WP E ad 79 [some (.ref (ad 39)), some (.int z10), some (.int r2)] [] (sV (sV τ3 55 z.toNatClampNeg z6) 39 6 z9)
          refine s_goto (tgt := 7) C dX7_flagMet_79 (by decide) ?_
          refine wp_le (lv' := [some (.ref (ad 39)), some (.int z10), none]) ⟨rfl, ⟨rfl, trivial⟩⟩ ?_
          exact ih (sV (sV τ3 55 z.toNatClampNeg z6) 39 6 z9) z10 (Fr.sV (Fr.sV (Fr.tr (Fr.tr Fr.rf (Fr.mo kF (by decide) (by decide))) (Fr.mo h4.1 (by decide) (by decide))) (Or.inl (by decide))) (Or.inr (by decide))) hXτ3 (by omega) (by omega)
        · refine s_iconst C dX7_flagMet_67 (by decide) (fun z11 tz11 => ?_)
          refine s_goto (tgt := 72) C dX7_flagMet_68 (by decide) ?_
          refine s_iaddU C dX7_flagMet_72 (fun z12 tz12 => ?_)
          refine s_put (k := 6) C y39 fw_X7_21 fp_6_6 rfl dX7_flagMet_73 ?_
          refine s_iinc C dX7_flagMet_76 rfl (by decide) rfl (by decide) (by omega) (fun z13 tz13 => ?_)
          show WP E ad 79 [some (.ref (ad 39)), some (.int z13), some (.int r2)] [] (sV (sV τ3 55 z.toNatClampNeg z6) 39 6 z12)
          refine s_goto (tgt := 7) C dX7_flagMet_79 (by decide) ?_
          refine wp_le (lv' := [some (.ref (ad 39)), some (.int z13), none]) ⟨rfl, ⟨rfl, trivial⟩⟩ ?_
          exact ih (sV (sV τ3 55 z.toNatClampNeg z6) 39 6 z12) z13 (Fr.sV (Fr.sV (Fr.tr (Fr.tr Fr.rf (Fr.mo kF (by decide) (by decide))) (Fr.mo h4.1 (by decide) (by decide))) (Or.inl (by decide))) (Or.inr (by decide))) hXτ3 (by omega) (by omega)
      · refine s_iconst C dX7_flagMet_52 (by decide) (fun z14 tz14 => ?_)
        refine s_goto (tgt := 57) C dX7_flagMet_53 (by decide) ?_
        refine s_iast C y55 (by omega) dX7_flagMet_57 ?_
        refine s_aload_n C dX7_flagMet_58 rfl ?_
        refine s_dup C dX7_flagMet_59 rfl ?_
        refine s_get (k := 6) (x := (τ3.1 39 6)) C y39 fw_X7_21 rfl rfl dX7_flagMet_60 ?_
        refine s_iload_n C dX7_flagMet_63 rfl ?_
        refine s_if_eq (tgt := 71) C dX7_flagMet_64 (by decide) (fun q15 => ?_) (fun q15 => ?_)
        · refine s_iconst C dX7_flagMet_71 (by decide) (fun z16 tz16 => ?_)
          refine s_iaddU C dX7_flagMet_72 (fun z17 tz17 => ?_)
          refine s_put (k := 6) C y39 fw_X7_21 fp_6_6 rfl dX7_flagMet_73 ?_
          refine s_iinc C dX7_flagMet_76 rfl (by decide) rfl (by decide) (by omega) (fun z18 tz18 => ?_)
          show WP E ad 79 [some (.ref (ad 39)), some (.int z18), some (.int r2)] [] (sV (sV τ3 55 z.toNatClampNeg z14) 39 6 z17)
          refine s_goto (tgt := 7) C dX7_flagMet_79 (by decide) ?_
          refine wp_le (lv' := [some (.ref (ad 39)), some (.int z18), none]) ⟨rfl, ⟨rfl, trivial⟩⟩ ?_
          exact ih (sV (sV τ3 55 z.toNatClampNeg z14) 39 6 z17) z18 (Fr.sV (Fr.sV (Fr.tr (Fr.tr Fr.rf (Fr.mo kF (by decide) (by decide))) (Fr.mo h4.1 (by decide) (by decide))) (Or.inl (by decide))) (Or.inr (by decide))) hXτ3 (by omega) (by omega)
        · refine s_iconst C dX7_flagMet_67 (by decide) (fun z19 tz19 => ?_)
          refine s_goto (tgt := 72) C dX7_flagMet_68 (by decide) ?_
          refine s_iaddU C dX7_flagMet_72 (fun z20 tz20 => ?_)
          refine s_put (k := 6) C y39 fw_X7_21 fp_6_6 rfl dX7_flagMet_73 ?_
          refine s_iinc C dX7_flagMet_76 rfl (by decide) rfl (by decide) (by omega) (fun z21 tz21 => ?_)
          show WP E ad 79 [some (.ref (ad 39)), some (.int z21), some (.int r2)] [] (sV (sV τ3 55 z.toNatClampNeg z14) 39 6 z20)
          refine s_goto (tgt := 7) C dX7_flagMet_79 (by decide) ?_
          refine wp_le (lv' := [some (.ref (ad 39)), some (.int z21), none]) ⟨rfl, ⟨rfl, trivial⟩⟩ ?_
          exact ih (sV (sV τ3 55 z.toNatClampNeg z14) 39 6 z20) z21 (Fr.sV (Fr.sV (Fr.tr (Fr.tr Fr.rf (Fr.mo kF (by decide) (by decide))) (Fr.mo h4.1 (by decide) (by decide))) (Or.inl (by decide))) (Or.inr (by decide))) hXτ3 (by omega) (by omega)
set_option maxRecDepth 100000 in
theorem c_X7_flagMet_2 (l : Launch) (ad : Nat → Nat) (σ : Sg)  (hX : IX σ.1)  : Mt l yX7_flagMet cX7_flagMet 3 none 4 ad σ [.ref (ad 39)] (oV (fun τ => IX τ.1 ∧ Fr [55, 56, 57] [(39, 3), (39, 4), (39, 5), (39, 6), (39, 7)] σ τ ∧ True)) := by
  have hpr := hX.pr
  have hsz := hX.sz
  refine Mt_intro (by decide +kernel) (by simp [lg_sl, Value.category]) (fun E C X => ?_)
  show WP E ad 0 [some (.ref (ad 39)), none, none] [] σ
  refine s_aload_n C dX7_flagMet_0 rfl ?_
  refine s_iconst C dX7_flagMet_1 (by decide) (fun z1 tz1 => ?_)
  refine s_put (k := 6) C y39 fw_X7_21 fp_6_6 rfl dX7_flagMet_2 ?_
  refine s_iconst C dX7_flagMet_5 (by decide) (fun z2 tz2 => ?_)
  refine s_istore_n C dX7_flagMet_6 (by decide) (Nat.le_of_ble_eq_true rfl) rfl ?_
  show WP E ad 7 [some (.ref (ad 39)), some (.int z2), none] [] (sV σ 39 6 z1)
  exact L_flagMet_2 l ad E σ  C X 5000 (sV σ 39 6 z1) z2 (Fr.sV Fr.rf (Or.inr (by decide))) hX (by omega) (by omega)
set_option maxRecDepth 100000 in
theorem L_flagP_2 (l : Launch) (ad : Nat → Nat) (E : Ev) (σ : Sg) (b : Int32) (C : Cx E l (rmk 3) 3 cX7_flagPassable RX7) (X : Rx E ad none (oV (fun τ => IX τ.1 ∧ Fr [55, 56, 57] [(39, 3), (39, 4), (39, 5), (39, 6), (39, 7)] σ τ ∧ True)))  : ∀ (n : Nat) (τ : Sg) (z : Int32), (Fr [55, 56, 57] [(39, 3), (39, 4), (39, 5), (39, 6), (39, 7)] σ τ) → (IX τ.1) → (-1 ≤ z.toInt ∧ z.toInt ≤ 1295) → (z.toInt + 1).toNat < n → WP E ad 12 [some (.ref (ad 39)), some (.int b), some (.int z)] [] τ := by
  intro n
  induction n with
  | zero => intro τ z kF hXτ h0 hm9; exact absurd hm9 (Nat.not_lt_zero _)
  | succ n ih =>
    intro τ z kF hXτ h0 hm9
    have hpr := hXτ.pr
    have hsz := hXτ.sz
    refine s_iload_n C dX7_flagPassable_12 rfl ?_
    refine s_if_lt (tgt := 56) C dX7_flagPassable_13 (by decide) (fun q1 => ?_) (fun q1 => ?_)
    · exact s_vret C X dX7_flagPassable_56 ⟨hXτ, kF, trivial⟩
    · refine s_aload_n C dX7_flagPassable_16 rfl ?_
      refine s_getr (k := 8) (j := 55) C y39 fw_X7_28 rfl dX7_flagPassable_17 ?_
      refine s_iload_n C dX7_flagPassable_20 rfl ?_
      refine s_iald (r := (τ.1 55 z.toNatClampNeg)) C y55 (by omega) rfl dX7_flagPassable_21 ?_
      refine s_iconst C dX7_flagPassable_22 (by decide) (fun z2 tz2 => ?_)
      refine s_iand C dX7_flagPassable_23 (fun z3 tz3 => ?_)
      refine s_if_ne (tgt := 50) C dX7_flagPassable_24 (by decide) (fun q4 => ?_) (fun q4 => ?_)
      · refine s_iinc C dX7_flagPassable_50 rfl (by decide) rfl (by decide) (by omega) (fun z5 tz5 => ?_)
        show WP E ad 53 [some (.ref (ad 39)), some (.int b), some (.int z5)] [] τ
        refine s_goto (tgt := 12) C dX7_flagPassable_53 (by decide) ?_
        exact ih τ z5 (Fr.tr Fr.rf (Fr.mo kF (by decide) (by decide))) hXτ (by omega) (by omega)
      · refine s_iload_n C dX7_flagPassable_27 rfl ?_
        refine s_iload_n C dX7_flagPassable_28 rfl ?_
        refine s_icmp_eq (tgt := 40) C dX7_flagPassable_29 (by decide) (fun q6 => ?_) (fun q6 => ?_)
        · refine s_aload_n C dX7_flagPassable_40 rfl ?_
          refine s_getr (k := 8) (j := 55) C y39 fw_X7_28 rfl dX7_flagPassable_41 ?_
          refine s_iload_n C dX7_flagPassable_44 rfl ?_
          refine s_dup2 C dX7_flagPassable_45 rfl rfl ?_
          refine s_iald (r := (τ.1 55 z.toNatClampNeg)) C y55 (by omega) rfl dX7_flagPassable_46 ?_
          refine s_iconst C dX7_flagPassable_47 (by decide) (fun z7 tz7 => ?_)
          refine s_ior C dX7_flagPassable_48 (fun z8 tz8 => ?_)
          refine s_iast C y55 (by omega) dX7_flagPassable_49 ?_
          refine s_iinc C dX7_flagPassable_50 rfl (by decide) rfl (by decide) (by omega) (fun z9 tz9 => ?_)
          show WP E ad 53 [some (.ref (ad 39)), some (.int b), some (.int z9)] [] (sV τ 55 z.toNatClampNeg z8)
          refine s_goto (tgt := 12) C dX7_flagPassable_53 (by decide) ?_
          exact ih (sV τ 55 z.toNatClampNeg z8) z9 (Fr.sV (Fr.tr Fr.rf (Fr.mo kF (by decide) (by decide))) (Or.inl (by decide))) hXτ (by omega) (by omega)
        · refine s_aload_n C dX7_flagPassable_32 rfl ?_
          refine s_iload_n C dX7_flagPassable_33 rfl ?_
          refine s_callVI (st := []) C (c_X7_passableStep_2 l ad τ z hXτ (by omega)) cv_X7_76 y39 rfl rfl rfl ⟨by decide, by decide⟩ (Nat.le_of_ble_eq_true rfl) dX7_flagPassable_34 ?_
          intro r10 τ11 h12
          obtain ⟨eh12, h12⟩ := h12; replace eh12 := eh12.symm; subst eh12
          refine s_if_lt (tgt := 50) C dX7_flagPassable_37 (by decide) (fun q13 => ?_) (fun q13 => ?_)
          · refine s_iinc C dX7_flagPassable_50 rfl (by decide) rfl (by decide) (by omega) (fun z14 tz14 => ?_)
            show WP E ad 53 [some (.ref (ad 39)), some (.int b), some (.int z14)] [] τ
            refine s_goto (tgt := 12) C dX7_flagPassable_53 (by decide) ?_
            exact ih τ z14 (Fr.tr Fr.rf (Fr.mo kF (by decide) (by decide))) hXτ (by omega) (by omega)
          · refine s_aload_n C dX7_flagPassable_40 rfl ?_
            refine s_getr (k := 8) (j := 55) C y39 fw_X7_28 rfl dX7_flagPassable_41 ?_
            refine s_iload_n C dX7_flagPassable_44 rfl ?_
            refine s_dup2 C dX7_flagPassable_45 rfl rfl ?_
            refine s_iald (r := (τ.1 55 z.toNatClampNeg)) C y55 (by omega) rfl dX7_flagPassable_46 ?_
            refine s_iconst C dX7_flagPassable_47 (by decide) (fun z15 tz15 => ?_)
            refine s_ior C dX7_flagPassable_48 (fun z16 tz16 => ?_)
            refine s_iast C y55 (by omega) dX7_flagPassable_49 ?_
            refine s_iinc C dX7_flagPassable_50 rfl (by decide) rfl (by decide) (by omega) (fun z17 tz17 => ?_)
            show WP E ad 53 [some (.ref (ad 39)), some (.int b), some (.int z17)] [] (sV τ 55 z.toNatClampNeg z16)
            refine s_goto (tgt := 12) C dX7_flagPassable_53 (by decide) ?_
            exact ih (sV τ 55 z.toNatClampNeg z16) z17 (Fr.sV (Fr.tr Fr.rf (Fr.mo kF (by decide) (by decide))) (Or.inl (by decide))) hXτ (by omega) (by omega)
set_option maxRecDepth 100000 in
theorem c_X7_flagPassable_2 (l : Launch) (ad : Nat → Nat) (σ : Sg)  (hX : IX σ.1)  : Mt l yX7_flagPassable cX7_flagPassable 3 none 3 ad σ [.ref (ad 39)] (oV (fun τ => IX τ.1 ∧ Fr [55, 56, 57] [(39, 3), (39, 4), (39, 5), (39, 6), (39, 7)] σ τ ∧ True)) := by
  have hpr := hX.pr
  have hsz := hX.sz
  refine Mt_intro (by decide +kernel) (by simp [lg_sl, Value.category]) (fun E C X => ?_)
  show WP E ad 0 [some (.ref (ad 39)), none, none] [] σ
  refine s_aload_n C dX7_flagPassable_0 rfl ?_
  refine s_getr (k := 1) (j := 61) C y39 fw_X7_42 rfl dX7_flagPassable_1 ?_
  refine s_get (k := 2) (x := (σ.1 61 2)) C y61 fw_X7_62 rfl rfl dX7_flagPassable_4 ?_
  refine s_iconst C dX7_flagPassable_7 (by decide) (fun z1 tz1 => ?_)
  refine s_isub C dX7_flagPassable_8 (by omega) (fun z2 tz2 => ?_)
  refine s_istore_n C dX7_flagPassable_9 (by decide) (Nat.le_of_ble_eq_true rfl) rfl ?_
  show WP E ad 10 [some (.ref (ad 39)), some (.int z2), none] [] σ
  refine s_iload_n C dX7_flagPassable_10 rfl ?_
  refine s_istore_n C dX7_flagPassable_11 (by decide) (Nat.le_of_ble_eq_true rfl) rfl ?_
  show WP E ad 12 [some (.ref (ad 39)), some (.int z2), some (.int z2)] [] σ
  exact L_flagP_2 l ad E σ z2 C X 5000 σ z2 Fr.rf hX (by omega) (by omega)
set_option maxRecDepth 100000 in
theorem L_gather_2 (l : Launch) (ad : Nat → Nat) (E : Ev) (σ : Sg) (a : Int32) (hg : GR a) (C : Cx E l (rmk 3) 4 cX7_gather RX7) (X : Rx E ad none (oV (fun τ => IX τ.1 ∧ Fr [55, 56, 57] [(39, 3), (39, 4), (39, 5), (39, 6), (39, 7)] σ τ ∧ True)))  : ∀ (n : Nat) (τ : Sg) (z : Int32), (Fr [55, 56, 57] [(39, 3), (39, 4), (39, 5), (39, 6), (39, 7)] σ τ) → (IX τ.1) → (0 ≤ z.toInt) → (4 - z.toInt).toNat < n → WP E ad 2 [some (.ref (ad 39)), some (.int a), some (.int z), none] [] τ := by
  intro n
  induction n with
  | zero => intro τ z kF hXτ h0 hm9; exact absurd hm9 (Nat.not_lt_zero _)
  | succ n ih =>
    intro τ z kF hXτ h0 hm9
    have hpr := hXτ.pr
    have hsz := hXτ.sz
    refine s_iload_n C dX7_gather_2 rfl ?_
    refine s_aload_n C dX7_gather_3 rfl ?_
    refine s_getr (k := 2) (j := 1) C y39 fw_X7_46 rfl dX7_gather_4 ?_
    refine s_get (k := 0) (x := (τ.1 1 0)) C y1 fw_X7_80 rfl rfl dX7_gather_7 ?_
    refine s_icmp_ge (tgt := 53) C dX7_gather_10 (by decide) (fun q1 => ?_) (fun q1 => ?_)
    · exact s_vret C X dX7_gather_53 ⟨hXτ, kF, trivial⟩
    · refine s_iload_n C dX7_gather_13 rfl ?_
      refine s_bipush C dX7_gather_14 (by decide) (fun z2 tz2 => ?_)
      refine s_imulR C tz2 dX7_gather_16 (by omega) (fun z3 tz3 => ?_)
      refine s_iload_n C dX7_gather_17 rfl ?_
      refine s_aload_n C dX7_gather_18 rfl ?_
      refine s_getr (k := 2) (j := 1) C y39 fw_X7_46 rfl dX7_gather_19 ?_
      refine s_iload_n C dX7_gather_22 rfl ?_
      refine s_callVI (st := [.int a, .int z3]) C (c_X5_placeOf l ad τ z (by omega) (by omega)) cv_X7_102 y1 rfl rfl rfl ⟨by decide, by decide⟩ (Nat.le_of_ble_eq_true rfl) dX7_gather_23 ?_
      intro r4 τ5 h6
      obtain ⟨eh6, h6⟩ := h6; replace eh6 := eh6.symm; subst eh6
      refine s_callSI (st := [.int z3]) C (c_X4_at l ad τ a r4 ) cv_X7_105 rfl rfl ⟨by decide, by decide⟩ (Nat.le_of_ble_eq_true rfl) dX7_gather_26 ?_
      intro r7 τ8 h9
      obtain ⟨eh9, h9⟩ := h9; replace eh9 := eh9.symm; subst eh9
      have gh9 : r7.toInt ≤ 5 := by rw [h9.1]; exact GR.at5 hg (by omega)
      refine s_iadd C dX7_gather_29 (by omega) (fun z10 tz10 => ?_)
      refine s_istore_n C dX7_gather_30 (by decide) (Nat.le_of_ble_eq_true rfl) rfl ?_
      show WP E ad 31 [some (.ref (ad 39)), some (.int a), some (.int z), some (.int z10)] [] τ
      refine s_aload_n C dX7_gather_31 rfl ?_
      refine s_getr (k := 9) (j := 56) C y39 fw_X7_32 rfl dX7_gather_32 ?_
      refine s_iload_n C dX7_gather_35 rfl ?_
      refine s_aload_n C dX7_gather_36 rfl ?_
      refine s_getr (k := 9) (j := 56) C y39 fw_X7_32 rfl dX7_gather_37 ?_
      refine s_iload_n C dX7_gather_40 rfl ?_
      refine s_iald (r := (τ.1 56 z10.toNatClampNeg)) C y56 (by omega) rfl dX7_gather_41 ?_
      refine s_iload_n C dX7_gather_42 rfl ?_
      refine s_callSI (st := [.int z10, .ref (ad 56)]) C (c_X7_meetOf l ad τ ((τ.1 56 z10.toNatClampNeg)) a ) cv_X7_99 rfl rfl ⟨by decide, by decide⟩ (Nat.le_of_ble_eq_true rfl) dX7_gather_43 ?_
      intro r11 τ12 h13
      obtain ⟨eh13, h13⟩ := h13; replace eh13 := eh13.symm; subst eh13
      refine s_iast C y56 (by omega) dX7_gather_46 ?_
      refine s_iinc C dX7_gather_47 rfl (by decide) rfl (by decide) (by omega) (fun z14 tz14 => ?_)
      show WP E ad 50 [some (.ref (ad 39)), some (.int a), some (.int z14), some (.int z10)] [] (sV τ 56 z10.toNatClampNeg r11)
      refine s_goto (tgt := 2) C dX7_gather_50 (by decide) ?_
      refine wp_le (lv' := [some (.ref (ad 39)), some (.int a), some (.int z14), none]) ⟨rfl, ⟨rfl, ⟨rfl, trivial⟩⟩⟩ ?_
      exact ih (sV τ 56 z10.toNatClampNeg r11) z14 (Fr.sV (Fr.tr Fr.rf (Fr.mo kF (by decide) (by decide))) (Or.inl (by decide))) hXτ (by omega) (by omega)
set_option maxRecDepth 100000 in
theorem c_X7_gather_2 (l : Launch) (ad : Nat → Nat) (σ : Sg) (a : Int32) (hX : IX σ.1) (hg : GR a) : Mt l yX7_gather cX7_gather 4 none 3 ad σ [.ref (ad 39), .int a] (oV (fun τ => IX τ.1 ∧ Fr [55, 56, 57] [(39, 3), (39, 4), (39, 5), (39, 6), (39, 7)] σ τ ∧ True)) := by
  have hpr := hX.pr
  have hsz := hX.sz
  refine Mt_intro (by decide +kernel) (by simp [lg_sl, Value.category]) (fun E C X => ?_)
  show WP E ad 0 [some (.ref (ad 39)), some (.int a), none, none] [] σ
  refine s_iconst C dX7_gather_0 (by decide) (fun z1 tz1 => ?_)
  refine s_istore_n C dX7_gather_1 (by decide) (Nat.le_of_ble_eq_true rfl) rfl ?_
  show WP E ad 2 [some (.ref (ad 39)), some (.int a), some (.int z1), none] [] σ
  exact L_gather_2 l ad E σ a hg C X 100 σ z1 Fr.rf hX (by omega) (by omega)
set_option maxRecDepth 100000 in
theorem L_glr66_2 (l : Launch) (ad : Nat → Nat) (E : Ev) (σ : Sg) (p : Int32) (hp : 0 ≤ p.toInt ∧ p.toInt ≤ 3) (C : Cx E l (rmk 4) 4 cX7_gatherLeastRows RX7) (X : Rx E ad none (oV (fun τ => IX τ.1 ∧ Fr [55, 56, 57] [(39, 3), (39, 4), (39, 5), (39, 6), (39, 7)] σ τ ∧ True))) (K : ∀ (υ : Sg) (p2 : Int32), Fr [55, 56, 57] [(39, 3), (39, 4), (39, 5), (39, 6), (39, 7)] σ υ → IX υ.1 → p2.toInt = p.toInt + 1 → WP E ad 53 [some (.ref (ad 39)), some (.int p2), none, none] [] υ) : ∀ (n : Nat) (τ : Sg) (z : Int32), (Fr [55, 56, 57] [(39, 3), (39, 4), (39, 5), (39, 6), (39, 7)] σ τ) → (IX τ.1) → (-1 ≤ z.toInt ∧ z.toInt ≤ 4) → (z.toInt + 1).toNat < n → WP E ad 66 [some (.ref (ad 39)), some (.int p), some (.int z), none] [] τ := by
  intro n
  induction n with
  | zero => intro τ z kF hXτ h0 hm9; exact absurd hm9 (Nat.not_lt_zero _)
  | succ n ih =>
    intro τ z kF hXτ h0 hm9
    refine s_iload_n C dX7_gatherLeastRows_66 rfl ?_
    refine s_if_lt (tgt := 106) C dX7_gatherLeastRows_67 (by decide) (fun q1 => ?_) (fun q1 => ?_)
    · refine s_iinc C dX7_gatherLeastRows_106 rfl (by decide) rfl (by decide) (by omega) (fun z2 tz2 => ?_)
      show WP E ad 109 [some (.ref (ad 39)), some (.int z2), some (.int z), none] [] τ
      refine s_goto (tgt := 53) C dX7_gatherLeastRows_109 (by decide) ?_
      refine wp_le (lv' := [some (.ref (ad 39)), some (.int z2), none, none]) ⟨rfl, ⟨rfl, trivial⟩⟩ ?_
      exact K τ z2 (Fr.tr Fr.rf (Fr.mo kF (by decide) (by decide))) hXτ (by omega)
    · refine s_iload_n C dX7_gatherLeastRows_70 rfl ?_
      refine s_bipush C dX7_gatherLeastRows_71 (by decide) (fun z3 tz3 => ?_)
      refine s_imulR C tz3 dX7_gatherLeastRows_73 (by omega) (fun z4 tz4 => ?_)
      refine s_iload_n C dX7_gatherLeastRows_74 rfl ?_
      refine s_iadd C dX7_gatherLeastRows_75 (by omega) (fun z5 tz5 => ?_)
      refine s_istore_n C dX7_gatherLeastRows_76 (by decide) (Nat.le_of_ble_eq_true rfl) rfl ?_
      show WP E ad 77 [some (.ref (ad 39)), some (.int p), some (.int z), some (.int z5)] [] τ
      refine s_aload_n C dX7_gatherLeastRows_77 rfl ?_
      refine s_getr (k := 9) (j := 56) C y39 fw_X7_32 rfl dX7_gatherLeastRows_78 ?_
      refine s_iload_n C dX7_gatherLeastRows_81 rfl ?_
      refine s_aload_n C dX7_gatherLeastRows_82 rfl ?_
      refine s_getr (k := 9) (j := 56) C y39 fw_X7_32 rfl dX7_gatherLeastRows_83 ?_
      refine s_iload_n C dX7_gatherLeastRows_86 rfl ?_
      refine s_iald (r := (τ.1 56 z5.toNatClampNeg)) C y56 (by omega) rfl dX7_gatherLeastRows_87 ?_
      refine s_aload_n C dX7_gatherLeastRows_88 rfl ?_
      refine s_getr (k := 9) (j := 56) C y39 fw_X7_32 rfl dX7_gatherLeastRows_89 ?_
      refine s_iload_n C dX7_gatherLeastRows_92 rfl ?_
      refine s_iconst C dX7_gatherLeastRows_93 (by decide) (fun z6 tz6 => ?_)
      refine s_iadd C dX7_gatherLeastRows_94 (by omega) (fun z7 tz7 => ?_)
      refine s_iald (r := (τ.1 56 z7.toNatClampNeg)) C y56 (by omega) rfl dX7_gatherLeastRows_95 ?_
      refine s_callSI (st := [.int z5, .ref (ad 56)]) C (c_X7_meetOf l ad τ ((τ.1 56 z5.toNatClampNeg)) ((τ.1 56 z7.toNatClampNeg)) ) cv_X7_99 rfl rfl ⟨by decide, by decide⟩ (Nat.le_of_ble_eq_true rfl) dX7_gatherLeastRows_96 ?_
      intro r8 τ9 h10
      obtain ⟨eh10, h10⟩ := h10; replace eh10 := eh10.symm; subst eh10
      refine s_iast C y56 (by omega) dX7_gatherLeastRows_99 ?_
      refine s_iinc C dX7_gatherLeastRows_100 rfl (by decide) rfl (by decide) (by omega) (fun z11 tz11 => ?_)
      show WP E ad 103 [some (.ref (ad 39)), some (.int p), some (.int z11), some (.int z5)] [] (sV τ 56 z5.toNatClampNeg r8)
      refine s_goto (tgt := 66) C dX7_gatherLeastRows_103 (by decide) ?_
      refine wp_le (lv' := [some (.ref (ad 39)), some (.int p), some (.int z11), none]) ⟨rfl, ⟨rfl, ⟨rfl, trivial⟩⟩⟩ ?_
      exact ih (sV τ 56 z5.toNatClampNeg r8) z11 (Fr.sV (Fr.tr Fr.rf (Fr.mo kF (by decide) (by decide))) (Or.inl (by decide))) hXτ (by omega) (by omega)
set_option maxRecDepth 100000 in
theorem L_glr53_2 (l : Launch) (ad : Nat → Nat) (E : Ev) (σ : Sg) (C : Cx E l (rmk 4) 4 cX7_gatherLeastRows RX7) (X : Rx E ad none (oV (fun τ => IX τ.1 ∧ Fr [55, 56, 57] [(39, 3), (39, 4), (39, 5), (39, 6), (39, 7)] σ τ ∧ True)))  : ∀ (n : Nat) (τ : Sg) (z : Int32), (Fr [55, 56, 57] [(39, 3), (39, 4), (39, 5), (39, 6), (39, 7)] σ τ) → (IX τ.1) → (0 ≤ z.toInt) → (4 - z.toInt).toNat < n → WP E ad 53 [some (.ref (ad 39)), some (.int z), none, none] [] τ := by
  intro n
  induction n with
  | zero => intro τ z kF hXτ h0 hm9; exact absurd hm9 (Nat.not_lt_zero _)
  | succ n ih =>
    intro τ z kF hXτ h0 hm9
    have hpr := hXτ.pr
    have hsz := hXτ.sz
    refine s_iload_n C dX7_gatherLeastRows_53 rfl ?_
    refine s_aload_n C dX7_gatherLeastRows_54 rfl ?_
    refine s_getr (k := 2) (j := 1) C y39 fw_X7_46 rfl dX7_gatherLeastRows_55 ?_
    refine s_get (k := 0) (x := (τ.1 1 0)) C y1 fw_X7_80 rfl rfl dX7_gatherLeastRows_58 ?_
    refine s_icmp_ge (tgt := 112) C dX7_gatherLeastRows_61 (by decide) (fun q1 => ?_) (fun q1 => ?_)
    · exact s_vret C X dX7_gatherLeastRows_112 ⟨hXτ, kF, trivial⟩
    · refine s_iconst C dX7_gatherLeastRows_64 (by decide) (fun z2 tz2 => ?_)
      refine s_istore_n C dX7_gatherLeastRows_65 (by decide) (Nat.le_of_ble_eq_true rfl) rfl ?_
      show WP E ad 66 [some (.ref (ad 39)), some (.int z), some (.int z2), none] [] τ
      exact L_glr66_2 l ad E σ z (by omega) C X (fun υ p2 h1 h2 h3 => ih υ p2 h1 h2 (by omega) (by omega)) 100 τ z2 (Fr.tr Fr.rf (Fr.mo kF (by decide) (by decide))) hXτ (by omega) (by omega)
set_option maxRecDepth 100000 in
theorem L_glr10_2 (l : Launch) (ad : Nat → Nat) (E : Ev) (σ : Sg) (C : Cx E l (rmk 4) 4 cX7_gatherLeastRows RX7) (X : Rx E ad none (oV (fun τ => IX τ.1 ∧ Fr [55, 56, 57] [(39, 3), (39, 4), (39, 5), (39, 6), (39, 7)] σ τ ∧ True)))  : ∀ (n : Nat) (τ : Sg) (z : Int32), (Fr [55, 56, 57] [(39, 3), (39, 4), (39, 5), (39, 6), (39, 7)] σ τ) → (IX τ.1) → (0 ≤ z.toInt) → (1296 - z.toInt).toNat < n → WP E ad 10 [some (.ref (ad 39)), some (.int z), none, none] [] τ := by
  intro n
  induction n with
  | zero => intro τ z kF hXτ h0 hm9; exact absurd hm9 (Nat.not_lt_zero _)
  | succ n ih =>
    intro τ z kF hXτ h0 hm9
    have hpr := hXτ.pr
    have hsz := hXτ.sz
    refine s_iload_n C dX7_gatherLeastRows_10 rfl ?_
    refine s_aload_n C dX7_gatherLeastRows_11 rfl ?_
    refine s_getr (k := 1) (j := 61) C y39 fw_X7_42 rfl dX7_gatherLeastRows_12 ?_
    refine s_get (k := 2) (x := (τ.1 61 2)) C y61 fw_X7_62 rfl rfl dX7_gatherLeastRows_15 ?_
    refine s_icmp_ge (tgt := 51) C dX7_gatherLeastRows_18 (by decide) (fun q1 => ?_) (fun q1 => ?_)
    · refine s_iconst C dX7_gatherLeastRows_51 (by decide) (fun z2 tz2 => ?_)
      refine s_istore_n C dX7_gatherLeastRows_52 (by decide) (Nat.le_of_ble_eq_true rfl) rfl ?_
      show WP E ad 53 [some (.ref (ad 39)), some (.int z2), none, none] [] τ
      exact L_glr53_2 l ad E σ C X 100 τ z2 (Fr.tr Fr.rf (Fr.mo kF (by decide) (by decide))) hXτ (by omega) (by omega)
    · refine s_aload_n C dX7_gatherLeastRows_21 rfl ?_
      refine s_getr (k := 8) (j := 55) C y39 fw_X7_28 rfl dX7_gatherLeastRows_22 ?_
      refine s_iload_n C dX7_gatherLeastRows_25 rfl ?_
      refine s_iald (r := (τ.1 55 z.toNatClampNeg)) C y55 (by omega) rfl dX7_gatherLeastRows_26 ?_
      refine s_iconst C dX7_gatherLeastRows_27 (by decide) (fun z3 tz3 => ?_)
      refine s_iand C dX7_gatherLeastRows_28 (fun z4 tz4 => ?_)
      refine s_if_eq (tgt := 45) C dX7_gatherLeastRows_29 (by decide) (fun q5 => ?_) (fun q5 => ?_)
      · refine s_iinc C dX7_gatherLeastRows_45 rfl (by decide) rfl (by decide) (by omega) (fun z6 tz6 => ?_)
        show WP E ad 48 [some (.ref (ad 39)), some (.int z6), none, none] [] τ
        refine s_goto (tgt := 10) C dX7_gatherLeastRows_48 (by decide) ?_
        exact ih τ z6 (Fr.tr Fr.rf (Fr.mo kF (by decide) (by decide))) hXτ (by omega) (by omega)
      · refine s_aload_n C dX7_gatherLeastRows_32 rfl ?_
        refine s_aload_n C dX7_gatherLeastRows_33 rfl ?_
        refine s_getr (k := 1) (j := 61) C y39 fw_X7_42 rfl dX7_gatherLeastRows_34 ?_
        refine s_getr (k := 3) (j := 62) C y61 fw_X7_67 rfl dX7_gatherLeastRows_37 ?_
        refine s_iload_n C dX7_gatherLeastRows_40 rfl ?_
        refine s_iald (r := (τ.1 62 z.toNatClampNeg)) C y62 (by omega) rfl dX7_gatherLeastRows_41 ?_
        refine s_callVV (st := []) C (c_X7_gather_2 l ad τ ((τ.1 62 z.toNatClampNeg)) hXτ (hXτ.rw _)) cv_X7_95 y39 rfl rfl rfl ⟨by decide, by decide⟩ (Nat.le_of_ble_eq_true rfl) dX7_gatherLeastRows_42 ?_
        intro τ8 h9
        have hXτ8 := h9.1
        have hRτ8 := h9.2.2
        refine s_iinc C dX7_gatherLeastRows_45 rfl (by decide) rfl (by decide) (by omega) (fun z10 tz10 => ?_)
        show WP E ad 48 [some (.ref (ad 39)), some (.int z10), none, none] [] τ8
        refine s_goto (tgt := 10) C dX7_gatherLeastRows_48 (by decide) ?_
        exact ih τ8 z10 (Fr.tr (Fr.tr Fr.rf (Fr.mo kF (by decide) (by decide))) (Fr.mo h9.2.1 (by decide) (by decide))) hXτ8 (by omega) (by omega)
set_option maxRecDepth 100000 in
theorem c_X7_gatherLeastRows_2 (l : Launch) (ad : Nat → Nat) (σ : Sg)  (hX : IX σ.1)  : Mt l yX7_gatherLeastRows cX7_gatherLeastRows 4 none 4 ad σ [.ref (ad 39)] (oV (fun τ => IX τ.1 ∧ Fr [55, 56, 57] [(39, 3), (39, 4), (39, 5), (39, 6), (39, 7)] σ τ ∧ True)) := by
  have hpr := hX.pr
  have hsz := hX.sz
  refine Mt_intro (by decide +kernel) (by simp [lg_sl, Value.category]) (fun E C X => ?_)
  show WP E ad 0 [some (.ref (ad 39)), none, none, none] [] σ
  refine s_aload_n C dX7_gatherLeastRows_0 rfl ?_
  refine s_getr (k := 9) (j := 56) C y39 fw_X7_32 rfl dX7_gatherLeastRows_1 ?_
  refine s_iconst C dX7_gatherLeastRows_4 (by decide) (fun z1 tz1 => ?_)
  refine s_callSV (st := []) C (c_J7_fill_53178 l ad σ 56 24 0 y56 (by decide) z1) cv_X7_89 rfl rfl ⟨by decide, by decide⟩ (Nat.le_of_ble_eq_true rfl) dX7_gatherLeastRows_5 ?_
  intro τ3 h4
  subst h4
  refine s_iconst C dX7_gatherLeastRows_8 (by decide) (fun z5 tz5 => ?_)
  refine s_istore_n C dX7_gatherLeastRows_9 (by decide) (Nat.le_of_ble_eq_true rfl) rfl ?_
  show WP E ad 10 [some (.ref (ad 39)), some (.int z5), none, none] [] (sR σ 56 (fun _ => z1))
  exact L_glr10_2 l ad E σ  C X 5000 (sR σ 56 (fun _ => z1)) z5 (Fr.sR Fr.rf (by decide)) hX (by omega) (by omega)
set_option maxRecDepth 100000 in
theorem L_join_2 (l : Launch) (ad : Nat → Nat) (E : Ev) (σ : Sg) (hX : IX σ.1) (a : Int32) (hg : GR a) (C : Cx E l (rmk 2) 4 cX7_isJoinOfLeast RX7) (X : Rx E ad (some .boolean) (oI (fun r τ => τ = σ ∧ (r.toInt = 0 ∨ r.toInt = 1))))  : ∀ (n : Nat) (z : Int32), (0 ≤ z.toInt) → (4 - z.toInt).toNat < n → WP E ad 2 [some (.ref (ad 39)), some (.int a), some (.int z), none] [] σ := by
  intro n
  induction n with
  | zero => intro z h0 hm9; exact absurd hm9 (Nat.not_lt_zero _)
  | succ n ih =>
    intro z h0 hm9
    have hpr := hX.pr
    have hsz := hX.sz
    refine s_iload_n C dX7_isJoinOfLeast_2 rfl ?_
    refine s_aload_n C dX7_isJoinOfLeast_3 rfl ?_
    refine s_getr (k := 2) (j := 1) C y39 fw_X7_46 rfl dX7_isJoinOfLeast_4 ?_
    refine s_get (k := 0) (x := (σ.1 1 0)) C y1 fw_X7_80 rfl rfl dX7_isJoinOfLeast_7 ?_
    refine s_icmp_ge (tgt := 57) C dX7_isJoinOfLeast_10 (by decide) (fun q1 => ?_) (fun q1 => ?_)
    · refine s_iconst C dX7_isJoinOfLeast_57 (by decide) (fun z2 tz2 => ?_)
      exact s_zret C (by omega) X dX7_isJoinOfLeast_58 ⟨rfl, by omega⟩
    · refine s_aload_n C dX7_isJoinOfLeast_13 rfl ?_
      refine s_getr (k := 9) (j := 56) C y39 fw_X7_32 rfl dX7_isJoinOfLeast_14 ?_
      refine s_iload_n C dX7_isJoinOfLeast_17 rfl ?_
      refine s_bipush C dX7_isJoinOfLeast_18 (by decide) (fun z3 tz3 => ?_)
      refine s_imulR C tz3 dX7_isJoinOfLeast_20 (by omega) (fun z4 tz4 => ?_)
      refine s_iload_n C dX7_isJoinOfLeast_21 rfl ?_
      refine s_aload_n C dX7_isJoinOfLeast_22 rfl ?_
      refine s_getr (k := 2) (j := 1) C y39 fw_X7_46 rfl dX7_isJoinOfLeast_23 ?_
      refine s_iload_n C dX7_isJoinOfLeast_26 rfl ?_
      refine s_callVI (st := [.int a, .int z4, .ref (ad 56)]) C (c_X5_placeOf l ad σ z (by omega) (by omega)) cv_X7_102 y1 rfl rfl rfl ⟨by decide, by decide⟩ (Nat.le_of_ble_eq_true rfl) dX7_isJoinOfLeast_27 ?_
      intro r5 τ6 h7
      obtain ⟨eh7, h7⟩ := h7; replace eh7 := eh7.symm; subst eh7
      refine s_callSI (st := [.int z4, .ref (ad 56)]) C (c_X4_at l ad σ a r5 ) cv_X7_105 rfl rfl ⟨by decide, by decide⟩ (Nat.le_of_ble_eq_true rfl) dX7_isJoinOfLeast_30 ?_
      intro r8 τ9 h10
      obtain ⟨eh10, h10⟩ := h10; replace eh10 := eh10.symm; subst eh10
      have gh10 : r8.toInt ≤ 5 := by rw [h10.1]; exact GR.at5 hg (by omega)
      refine s_iadd C dX7_isJoinOfLeast_33 (by omega) (fun z11 tz11 => ?_)
      refine s_iald (r := (σ.1 56 z11.toNatClampNeg)) C y56 (by omega) rfl dX7_isJoinOfLeast_34 ?_
      refine s_istore_n C dX7_isJoinOfLeast_35 (by decide) (Nat.le_of_ble_eq_true rfl) rfl ?_
      show WP E ad 36 [some (.ref (ad 39)), some (.int a), some (.int z), some (.int (σ.1 56 z11.toNatClampNeg))] [] σ
      refine s_iload_n C dX7_isJoinOfLeast_36 rfl ?_
      refine s_iconst C dX7_isJoinOfLeast_37 (by decide) (fun z12 tz12 => ?_)
      refine s_icmp_eq (tgt := 49) C dX7_isJoinOfLeast_38 (by decide) (fun q13 => ?_) (fun q13 => ?_)
      · refine s_iconst C dX7_isJoinOfLeast_49 (by decide) (fun z14 tz14 => ?_)
        exact s_zret C (by omega) X dX7_isJoinOfLeast_50 ⟨rfl, by omega⟩
      · refine s_iload_n C dX7_isJoinOfLeast_41 rfl ?_
        refine s_iload_n C dX7_isJoinOfLeast_42 rfl ?_
        refine s_callSI (st := []) C (c_X4_isWithin l ad σ ((σ.1 56 z11.toNatClampNeg)) a ) cv_X7_117 rfl rfl ⟨by decide, by decide⟩ (Nat.le_of_ble_eq_true rfl) dX7_isJoinOfLeast_43 ?_
        intro r15 τ16 h17
        obtain ⟨eh17, h17⟩ := h17; replace eh17 := eh17.symm; subst eh17
        refine s_if_ne (tgt := 51) C dX7_isJoinOfLeast_46 (by decide) (fun q18 => ?_) (fun q18 => ?_)
        · refine s_iinc C dX7_isJoinOfLeast_51 rfl (by decide) rfl (by decide) (by omega) (fun z19 tz19 => ?_)
          show WP E ad 54 [some (.ref (ad 39)), some (.int a), some (.int z19), some (.int (σ.1 56 z11.toNatClampNeg))] [] σ
          refine s_goto (tgt := 2) C dX7_isJoinOfLeast_54 (by decide) ?_
          refine wp_le (lv' := [some (.ref (ad 39)), some (.int a), some (.int z19), none]) ⟨rfl, ⟨rfl, ⟨rfl, trivial⟩⟩⟩ ?_
          exact ih z19 (by omega) (by omega)
        · refine s_iconst C dX7_isJoinOfLeast_49 (by decide) (fun z20 tz20 => ?_)
          exact s_zret C (by omega) X dX7_isJoinOfLeast_50 ⟨rfl, by omega⟩
set_option maxRecDepth 100000 in
theorem c_X7_isJoinOfLeast_2 (l : Launch) (ad : Nat → Nat) (σ : Sg) (a : Int32) (hX : IX σ.1) (hg : GR a) : Mt l yX7_isJoinOfLeast cX7_isJoinOfLeast 4 (some .boolean) 2 ad σ [.ref (ad 39), .int a] (oI (fun r τ => τ = σ ∧ (r.toInt = 0 ∨ r.toInt = 1))) := by
  have hpr := hX.pr
  have hsz := hX.sz
  refine Mt_intro (by decide +kernel) (by simp [lg_sl, Value.category]) (fun E C X => ?_)
  show WP E ad 0 [some (.ref (ad 39)), some (.int a), none, none] [] σ
  refine s_iconst C dX7_isJoinOfLeast_0 (by decide) (fun z1 tz1 => ?_)
  refine s_istore_n C dX7_isJoinOfLeast_1 (by decide) (Nat.le_of_ble_eq_true rfl) rfl ?_
  show WP E ad 2 [some (.ref (ad 39)), some (.int a), some (.int z1), none] [] σ
  exact L_join_2 l ad E σ hX a hg C X 100 z1 (by omega) (by omega)
set_option maxRecDepth 100000 in
theorem L_flagS_2 (l : Launch) (ad : Nat → Nat) (E : Ev) (σ : Sg) (C : Cx E l (rmk 3) 2 cX7_flagSliced RX7) (X : Rx E ad none (oV (fun τ => IX τ.1 ∧ Fr [55, 56, 57] [(39, 3), (39, 4), (39, 5), (39, 6), (39, 7)] σ τ ∧ True)))  : ∀ (n : Nat) (τ : Sg) (z : Int32), (Fr [55, 56, 57] [(39, 3), (39, 4), (39, 5), (39, 6), (39, 7)] σ τ) → (IX τ.1) → (0 ≤ z.toInt) → (1296 - z.toInt).toNat < n → WP E ad 7 [some (.ref (ad 39)), some (.int z)] [] τ := by
  intro n
  induction n with
  | zero => intro τ z kF hXτ h0 hm9; exact absurd hm9 (Nat.not_lt_zero _)
  | succ n ih =>
    intro τ z kF hXτ h0 hm9
    have hpr := hXτ.pr
    have hsz := hXτ.sz
    refine s_iload_n C dX7_flagSliced_7 rfl ?_
    refine s_aload_n C dX7_flagSliced_8 rfl ?_
    refine s_getr (k := 1) (j := 61) C y39 fw_X7_42 rfl dX7_flagSliced_9 ?_
    refine s_get (k := 2) (x := (τ.1 61 2)) C y61 fw_X7_62 rfl rfl dX7_flagSliced_12 ?_
    refine s_icmp_ge (tgt := 60) C dX7_flagSliced_15 (by decide) (fun q1 => ?_) (fun q1 => ?_)
    · exact s_vret C X dX7_flagSliced_60 ⟨hXτ, kF, trivial⟩
    · refine s_aload_n C dX7_flagSliced_18 rfl ?_
      refine s_aload_n C dX7_flagSliced_19 rfl ?_
      refine s_getr (k := 1) (j := 61) C y39 fw_X7_42 rfl dX7_flagSliced_20 ?_
      refine s_getr (k := 3) (j := 62) C y61 fw_X7_67 rfl dX7_flagSliced_23 ?_
      refine s_iload_n C dX7_flagSliced_26 rfl ?_
      refine s_iald (r := (τ.1 62 z.toNatClampNeg)) C y62 (by omega) rfl dX7_flagSliced_27 ?_
      refine s_callVI (st := []) C (c_X7_isJoinOfLeast_2 l ad τ ((τ.1 62 z.toNatClampNeg)) hXτ (hXτ.rw _)) cv_X7_113 y39 rfl rfl rfl ⟨by decide, by decide⟩ (Nat.le_of_ble_eq_true rfl) dX7_flagSliced_28 ?_
      intro r2 τ3 h4
      obtain ⟨eh4, h4⟩ := h4; replace eh4 := eh4.symm; subst eh4
      refine s_if_eq (tgt := 54) C dX7_flagSliced_31 (by decide) (fun q5 => ?_) (fun q5 => ?_)
      · refine s_iinc C dX7_flagSliced_54 rfl (by decide) rfl (by decide) (by omega) (fun z6 tz6 => ?_)
        show WP E ad 57 [some (.ref (ad 39)), some (.int z6)] [] τ
        refine s_goto (tgt := 7) C dX7_flagSliced_57 (by decide) ?_
        exact ih τ z6 (Fr.tr Fr.rf (Fr.mo kF (by decide) (by decide))) hXτ (by omega) (by omega)
      · refine s_aload_n C dX7_flagSliced_34 rfl ?_
        refine s_getr (k := 8) (j := 55) C y39 fw_X7_28 rfl dX7_flagSliced_35 ?_
        refine s_iload_n C dX7_flagSliced_38 rfl ?_
        refine s_dup2 C dX7_flagSliced_39 rfl rfl ?_
        refine s_iald (r := (τ.1 55 z.toNatClampNeg)) C y55 (by omega) rfl dX7_flagSliced_40 ?_
        refine s_iconst C dX7_flagSliced_41 (by decide) (fun z7 tz7 => ?_)
        refine s_ior C dX7_flagSliced_42 (fun z8 tz8 => ?_)
        refine s_iast C y55 (by omega) dX7_flagSliced_43 ?_
        refine s_aload_n C dX7_flagSliced_44 rfl ?_
        refine s_dup C dX7_flagSliced_45 rfl ?_
        refine s_get (k := 7) (x := (τ.1 39 7)) C y39 fw_X7_25 rfl rfl dX7_flagSliced_46 ?_
        refine s_iconst C dX7_flagSliced_49 (by decide) (fun z9 tz9 => ?_)
        refine s_iaddU C dX7_flagSliced_50 (fun z10 tz10 => ?_)
        refine s_put (k := 7) C y39 fw_X7_25 fp_6_7 rfl dX7_flagSliced_51 ?_
        refine s_iinc C dX7_flagSliced_54 rfl (by decide) rfl (by decide) (by omega) (fun z11 tz11 => ?_)
        show WP E ad 57 [some (.ref (ad 39)), some (.int z11)] [] (sV (sV τ 55 z.toNatClampNeg z8) 39 7 z10)
        refine s_goto (tgt := 7) C dX7_flagSliced_57 (by decide) ?_
        exact ih (sV (sV τ 55 z.toNatClampNeg z8) 39 7 z10) z11 (Fr.sV (Fr.sV (Fr.tr Fr.rf (Fr.mo kF (by decide) (by decide))) (Or.inl (by decide))) (Or.inr (by decide))) hXτ (by omega) (by omega)
set_option maxRecDepth 100000 in
theorem c_X7_flagSliced_2 (l : Launch) (ad : Nat → Nat) (σ : Sg)  (hX : IX σ.1)  : Mt l yX7_flagSliced cX7_flagSliced 2 none 3 ad σ [.ref (ad 39)] (oV (fun τ => IX τ.1 ∧ Fr [55, 56, 57] [(39, 3), (39, 4), (39, 5), (39, 6), (39, 7)] σ τ ∧ True)) := by
  have hpr := hX.pr
  have hsz := hX.sz
  refine Mt_intro (by decide +kernel) (by simp [lg_sl, Value.category]) (fun E C X => ?_)
  show WP E ad 0 [some (.ref (ad 39)), none] [] σ
  refine s_aload_n C dX7_flagSliced_0 rfl ?_
  refine s_iconst C dX7_flagSliced_1 (by decide) (fun z1 tz1 => ?_)
  refine s_put (k := 7) C y39 fw_X7_25 fp_6_7 rfl dX7_flagSliced_2 ?_
  refine s_iconst C dX7_flagSliced_5 (by decide) (fun z2 tz2 => ?_)
  refine s_istore_n C dX7_flagSliced_6 (by decide) (Nat.le_of_ble_eq_true rfl) rfl ?_
  show WP E ad 7 [some (.ref (ad 39)), some (.int z2)] [] (sV σ 39 7 z1)
  exact L_flagS_2 l ad E σ  C X 5000 (sV σ 39 7 z1) z2 (Fr.sV Fr.rf (Or.inr (by decide))) hX (by omega) (by omega)
set_option maxRecDepth 100000 in
theorem c_X7_needPassable_2 (l : Launch) (ad : Nat → Nat) (σ : Sg)  (hX : IX σ.1)  : Mt l yX7_needPassable cX7_needPassable 1 none 4 ad σ [.ref (ad 39)] (oV (fun τ => IX τ.1 ∧ Fr [55, 56, 57] [(39, 3), (39, 4), (39, 5), (39, 6), (39, 7)] σ τ ∧ True)) := by
  have hpr := hX.pr
  have hsz := hX.sz
  refine Mt_intro (by decide +kernel) (by simp [lg_sl, Value.category]) (fun E C X => ?_)
  show WP E ad 0 [some (.ref (ad 39))] [] σ
  refine s_aload_n C dX7_needPassable_0 rfl ?_
  refine s_get (k := 4) (x := (σ.1 39 4)) C y39 fw_X7_15 rfl rfl dX7_needPassable_1 ?_
  refine s_if_ne (tgt := 16) C dX7_needPassable_4 (by decide) (fun q1 => ?_) (fun q1 => ?_)
  · exact s_vret C X dX7_needPassable_16 ⟨hX, Fr.rf, trivial⟩
  · refine s_aload_n C dX7_needPassable_7 rfl ?_
    refine s_iconst C dX7_needPassable_8 (by decide) (fun z2 tz2 => ?_)
    refine s_putz (k := 4) C y39 fw_X7_15 fp_6_4 rfl (by omega) dX7_needPassable_9 ?_
    refine s_aload_n C dX7_needPassable_12 rfl ?_
    refine s_callVV (st := []) C (c_X7_flagPassable_2 l ad (sV σ 39 4 z2)  hX ) cv_X7_53 y39 rfl rfl rfl ⟨by decide, by decide⟩ (Nat.le_of_ble_eq_true rfl) dX7_needPassable_13 ?_
    intro τ4 h5
    have hXτ4 := h5.1
    have hRτ4 := h5.2.2
    have prτ4 := hXτ4.pr
    have szτ4 := hXτ4.sz
    exact s_vret C X dX7_needPassable_16 ⟨hXτ4, (Fr.tr (Fr.sV Fr.rf (Or.inr (by decide))) (Fr.mo h5.2.1 (by decide) (by decide))), trivial⟩
set_option maxRecDepth 100000 in
theorem c_X7_needSlice_2 (l : Launch) (ad : Nat → Nat) (σ : Sg)  (hX : IX σ.1)  : Mt l yX7_needSlice cX7_needSlice 1 none 5 ad σ [.ref (ad 39)] (oV (fun τ => IX τ.1 ∧ Fr [55, 56, 57] [(39, 3), (39, 4), (39, 5), (39, 6), (39, 7)] σ τ ∧ True)) := by
  have hpr := hX.pr
  have hsz := hX.sz
  refine Mt_intro (by decide +kernel) (by simp [lg_sl, Value.category]) (fun E C X => ?_)
  show WP E ad 0 [some (.ref (ad 39))] [] σ
  refine s_aload_n C dX7_needSlice_0 rfl ?_
  refine s_get (k := 5) (x := (σ.1 39 5)) C y39 fw_X7_18 rfl rfl dX7_needSlice_1 ?_
  refine s_if_ne (tgt := 20) C dX7_needSlice_4 (by decide) (fun q1 => ?_) (fun q1 => ?_)
  · exact s_vret C X dX7_needSlice_20 ⟨hX, Fr.rf, trivial⟩
  · refine s_aload_n C dX7_needSlice_7 rfl ?_
    refine s_iconst C dX7_needSlice_8 (by decide) (fun z2 tz2 => ?_)
    refine s_putz (k := 5) C y39 fw_X7_18 fp_6_5 rfl (by omega) dX7_needSlice_9 ?_
    refine s_aload_n C dX7_needSlice_12 rfl ?_
    refine s_callVV (st := []) C (c_X7_gatherLeastRows_2 l ad (sV σ 39 5 z2)  hX ) cv_X7_56 y39 rfl rfl rfl ⟨by decide, by decide⟩ (Nat.le_of_ble_eq_true rfl) dX7_needSlice_13 ?_
    intro τ4 h5
    have hXτ4 := h5.1
    have hRτ4 := h5.2.2
    have prτ4 := hXτ4.pr
    have szτ4 := hXτ4.sz
    refine s_aload_n C dX7_needSlice_16 rfl ?_
    refine s_callVV (st := []) C (c_X7_flagSliced_2 l ad τ4  hXτ4 ) cv_X7_59 y39 rfl rfl rfl ⟨by decide, by decide⟩ (Nat.le_of_ble_eq_true rfl) dX7_needSlice_17 ?_
    intro τ7 h8
    have hXτ7 := h8.1
    have hRτ7 := h8.2.2
    have prτ7 := hXτ7.pr
    have szτ7 := hXτ7.sz
    exact s_vret C X dX7_needSlice_20 ⟨hXτ7, (Fr.tr (Fr.tr (Fr.sV Fr.rf (Or.inr (by decide))) (Fr.mo h5.2.1 (by decide) (by decide))) (Fr.mo h8.2.1 (by decide) (by decide))), trivial⟩
set_option maxRecDepth 100000 in
theorem c_X7_refresh_2 (l : Launch) (ad : Nat → Nat) (σ : Sg)  (hX : IX σ.1)  : Mt l yX7_refresh cX7_refresh 1 none 5 ad σ [.ref (ad 39)] (oV (fun τ => IX τ.1 ∧ Fr [55, 56, 57] [(39, 3), (39, 4), (39, 5), (39, 6), (39, 7)] σ τ ∧ True)) := by
  have hpr := hX.pr
  have hsz := hX.sz
  refine Mt_intro (by decide +kernel) (by simp [lg_sl, Value.category]) (fun E C X => ?_)
  show WP E ad 0 [some (.ref (ad 39))] [] σ
  refine s_aload_n C dX7_refresh_0 rfl ?_
  refine s_get (k := 3) (x := (σ.1 39 3)) C y39 fw_X7_9 rfl rfl dX7_refresh_1 ?_
  refine s_if_ne (tgt := 8) C dX7_refresh_4 (by decide) (fun q1 => ?_) (fun q1 => ?_)
  · refine s_aload_n C dX7_refresh_8 rfl ?_
    refine s_iconst C dX7_refresh_9 (by decide) (fun z2 tz2 => ?_)
    refine s_putz (k := 3) C y39 fw_X7_9 fp_6_3 rfl (by omega) dX7_refresh_10 ?_
    refine s_aload_n C dX7_refresh_13 rfl ?_
    refine s_iconst C dX7_refresh_14 (by decide) (fun z3 tz3 => ?_)
    refine s_putz (k := 4) C y39 fw_X7_15 fp_6_4 rfl (by omega) dX7_refresh_15 ?_
    refine s_aload_n C dX7_refresh_18 rfl ?_
    refine s_iconst C dX7_refresh_19 (by decide) (fun z4 tz4 => ?_)
    refine s_putz (k := 5) C y39 fw_X7_18 fp_6_5 rfl (by omega) dX7_refresh_20 ?_
    refine s_aload_n C dX7_refresh_23 rfl ?_
    refine s_callVV (st := []) C (c_X7_flagMet_2 l ad (sV (sV (sV σ 39 3 z2) 39 4 z3) 39 5 z4)  hX ) cv_X7_50 y39 rfl rfl rfl ⟨by decide, by decide⟩ (Nat.le_of_ble_eq_true rfl) dX7_refresh_24 ?_
    intro τ6 h7
    have hXτ6 := h7.1
    have hRτ6 := h7.2.2
    have prτ6 := hXτ6.pr
    have szτ6 := hXτ6.sz
    exact s_vret C X dX7_refresh_27 ⟨hXτ6, (Fr.tr (Fr.sV (Fr.sV (Fr.sV Fr.rf (Or.inr (by decide))) (Or.inr (by decide))) (Or.inr (by decide))) (Fr.mo h7.2.1 (by decide) (by decide))), trivial⟩
  · exact s_vret C X dX7_refresh_7 ⟨hX, Fr.rf, trivial⟩
set_option maxRecDepth 100000 in
theorem c_X7_meetsAt_2 (l : Launch) (ad : Nat → Nat) (σ : Sg) (i : Int32) (hX : IX σ.1) (hi : 0 ≤ i.toInt ∧ i.toInt ≤ 1295) : Mt l yX7_meetsAt cX7_meetsAt 2 (some .int) 0 ad σ [.ref (ad 39), .int i] (oI (fun r τ => τ = σ ∧ True)) := by
  have hpr := hX.pr
  have hsz := hX.sz
  refine Mt_intro (by decide +kernel) (by simp [lg_sl, Value.category]) (fun E C X => ?_)
  show WP E ad 0 [some (.ref (ad 39)), some (.int i)] [] σ
  refine s_aload_n C dX7_meetsAt_0 rfl ?_
  refine s_getr (k := 8) (j := 55) C y39 fw_X7_28 rfl dX7_meetsAt_1 ?_
  refine s_iload_n C dX7_meetsAt_4 rfl ?_
  refine s_iald (r := (σ.1 55 i.toNatClampNeg)) C y55 (by omega) rfl dX7_meetsAt_5 ?_
  refine s_iconst C dX7_meetsAt_6 (by decide) (fun z1 tz1 => ?_)
  refine s_iand C dX7_meetsAt_7 (fun z2 tz2 => ?_)
  exact s_iret C X dX7_meetsAt_8 ⟨rfl, trivial⟩
set_option maxRecDepth 100000 in
theorem L_flagged_2 (l : Launch) (ad : Nat → Nat) (E : Ev) (σ : Sg) (hX : IX σ.1) (f b : Int32) (C : Cx E l (rmk 0) 5 cX7_flaggedAt RX7) (X : Rx E ad (some .int) (oI (fun r τ => τ = σ ∧ True)))  : ∀ (n : Nat) (a : Int32) (z : Int32), (0 ≤ a.toInt) → (0 ≤ z.toInt) → (1296 - z.toInt).toNat < n → WP E ad 5 [some (.ref (ad 39)), some (.int f), some (.int b), some (.int a), some (.int z)] [] σ := by
  intro n
  induction n with
  | zero => intro a z ha h0 hm9; exact absurd hm9 (Nat.not_lt_zero _)
  | succ n ih =>
    intro a z ha h0 hm9
    have hpr := hX.pr
    have hsz := hX.sz
    have hau := a.toInt_lt
    refine s_iload C dX7_flaggedAt_5 rfl ?_
    refine s_aload_n C dX7_flaggedAt_7 rfl ?_
    refine s_getr (k := 1) (j := 61) C y39 fw_X7_42 rfl dX7_flaggedAt_8 ?_
    refine s_get (k := 2) (x := (σ.1 61 2)) C y61 fw_X7_62 rfl rfl dX7_flaggedAt_11 ?_
    refine s_icmp_ge (tgt := 45) C dX7_flaggedAt_14 (by decide) (fun q1 => ?_) (fun q1 => ?_)
    · refine s_bipush C dX7_flaggedAt_45 (by decide) (fun z2 tz2 => ?_)
      exact s_iret C X dX7_flaggedAt_47 ⟨rfl, trivial⟩
    · refine s_aload_n C dX7_flaggedAt_17 rfl ?_
      refine s_getr (k := 8) (j := 55) C y39 fw_X7_28 rfl dX7_flaggedAt_18 ?_
      refine s_iload C dX7_flaggedAt_21 rfl ?_
      refine s_iald (r := (σ.1 55 z.toNatClampNeg)) C y55 (by omega) rfl dX7_flaggedAt_23 ?_
      refine s_iload_n C dX7_flaggedAt_24 rfl ?_
      refine s_iand C dX7_flaggedAt_25 (fun z3 tz3 => ?_)
      refine s_if_eq (tgt := 39) C dX7_flaggedAt_26 (by decide) (fun q4 => ?_) (fun q4 => ?_)
      · refine s_iinc C dX7_flaggedAt_39 rfl (by decide) rfl (by decide) (by omega) (fun z5 tz5 => ?_)
        show WP E ad 42 [some (.ref (ad 39)), some (.int f), some (.int b), some (.int a), some (.int z5)] [] σ
        refine s_goto (tgt := 5) C dX7_flaggedAt_42 (by decide) ?_
        exact ih a z5 (by omega) (by omega) (by omega)
      · refine s_iload_n C dX7_flaggedAt_29 rfl ?_
        refine s_if_ne (tgt := 36) C dX7_flaggedAt_30 (by decide) (fun q6 => ?_) (fun q6 => ?_)
        · refine s_iinc C dX7_flaggedAt_36 rfl (by decide) rfl (by decide) (by omega) (fun z7 tz7 => ?_)
          show WP E ad 39 [some (.ref (ad 39)), some (.int f), some (.int b), some (.int z7), some (.int z)] [] σ
          refine s_iinc C dX7_flaggedAt_39 rfl (by decide) rfl (by decide) (by omega) (fun z8 tz8 => ?_)
          show WP E ad 42 [some (.ref (ad 39)), some (.int f), some (.int b), some (.int z7), some (.int z8)] [] σ
          refine s_goto (tgt := 5) C dX7_flaggedAt_42 (by decide) ?_
          exact ih z7 z8 (by omega) (by omega) (by omega)
        · refine s_iload C dX7_flaggedAt_33 rfl ?_
          exact s_iret C X dX7_flaggedAt_35 ⟨rfl, trivial⟩
set_option maxRecDepth 100000 in
theorem c_X7_flaggedAt_2 (l : Launch) (ad : Nat → Nat) (σ : Sg) (f : Int32) (b : Int32) (hX : IX σ.1) (hb : 0 ≤ b.toInt) : Mt l yX7_flaggedAt cX7_flaggedAt 5 (some .int) 0 ad σ [.ref (ad 39), .int f, .int b] (oI (fun r τ => τ = σ ∧ True)) := by
  have hpr := hX.pr
  have hsz := hX.sz
  refine Mt_intro (by decide +kernel) (by simp [lg_sl, Value.category]) (fun E C X => ?_)
  show WP E ad 0 [some (.ref (ad 39)), some (.int f), some (.int b), none, none] [] σ
  refine s_iload_n C dX7_flaggedAt_0 rfl ?_
  refine s_istore_n C dX7_flaggedAt_1 (by decide) (Nat.le_of_ble_eq_true rfl) rfl ?_
  show WP E ad 2 [some (.ref (ad 39)), some (.int f), some (.int b), some (.int b), none] [] σ
  refine s_iconst C dX7_flaggedAt_2 (by decide) (fun z1 tz1 => ?_)
  refine s_istore C dX7_flaggedAt_3 (by decide) (Nat.le_of_ble_eq_true rfl) rfl ?_
  show WP E ad 5 [some (.ref (ad 39)), some (.int f), some (.int b), some (.int b), some (.int z1)] [] σ
  exact L_flagged_2 l ad E σ hX f b C X 5000 b z1 (by omega) (by omega) (by omega)
set_option maxRecDepth 100000 in
theorem c_X7_pickMet_2 (l : Launch) (ad : Nat → Nat) (σ : Sg) (b : Int32) (hX : IX σ.1) (hb : -1 ≤ b.toInt) : Mt l yX7_pickMet cX7_pickMet 2 (some .int) 1 ad σ [.ref (ad 39), .int b] (oI (fun r τ => τ = σ ∧ True)) := by
  have hpr := hX.pr
  have hsz := hX.sz
  refine Mt_intro (by decide +kernel) (by simp [lg_sl, Value.category]) (fun E C X => ?_)
  show WP E ad 0 [some (.ref (ad 39)), some (.int b)] [] σ
  refine s_iload_n C dX7_pickMet_0 rfl ?_
  refine s_iconst C dX7_pickMet_1 (by decide) (fun z1 tz1 => ?_)
  refine s_icmp_ne (tgt := 12) C dX7_pickMet_2 (by decide) (fun q2 => ?_) (fun q2 => ?_)
  · refine s_aload_n C dX7_pickMet_12 rfl ?_
    refine s_iconst C dX7_pickMet_13 (by decide) (fun z3 tz3 => ?_)
    refine s_iload_n C dX7_pickMet_14 rfl ?_
    refine s_callVI (st := []) C (c_X7_flaggedAt_2 l ad σ z3 b hX (by omega)) cv_X7_121 y39 rfl rfl rfl ⟨by decide, by decide⟩ (Nat.le_of_ble_eq_true rfl) dX7_pickMet_15 ?_
    intro r4 τ5 h6
    obtain ⟨eh6, h6⟩ := h6; replace eh6 := eh6.symm; subst eh6
    exact s_iret C X dX7_pickMet_18 ⟨rfl, trivial⟩
  · refine s_aload_n C dX7_pickMet_5 rfl ?_
    refine s_get (k := 6) (x := (σ.1 39 6)) C y39 fw_X7_21 rfl rfl dX7_pickMet_6 ?_
    refine s_goto (tgt := 18) C dX7_pickMet_9 (by decide) ?_
    exact s_iret C X dX7_pickMet_18 ⟨rfl, trivial⟩
set_option maxRecDepth 100000 in
theorem c_X7_pickSliced_2 (l : Launch) (ad : Nat → Nat) (σ : Sg) (b : Int32) (hX : IX σ.1) (hb : -1 ≤ b.toInt) : Mt l yX7_pickSliced cX7_pickSliced 2 (some .int) 6 ad σ [.ref (ad 39), .int b] (oI (fun r τ => IX τ.1 ∧ Fr [55, 56, 57] [(39, 3), (39, 4), (39, 5), (39, 6), (39, 7)] σ τ ∧ True)) := by
  have hpr := hX.pr
  have hsz := hX.sz
  refine Mt_intro (by decide +kernel) (by simp [lg_sl, Value.category]) (fun E C X => ?_)
  show WP E ad 0 [some (.ref (ad 39)), some (.int b)] [] σ
  refine s_aload_n C dX7_pickSliced_0 rfl ?_
  refine s_callVV (st := []) C (c_X7_needSlice_2 l ad σ  hX ) cv_X7_124 y39 rfl rfl rfl ⟨by decide, by decide⟩ (Nat.le_of_ble_eq_true rfl) dX7_pickSliced_1 ?_
  intro τ2 h3
  have hXτ2 := h3.1
  have hRτ2 := h3.2.2
  have prτ2 := hXτ2.pr
  have szτ2 := hXτ2.sz
  refine s_iload_n C dX7_pickSliced_4 rfl ?_
  refine s_iconst C dX7_pickSliced_5 (by decide) (fun z4 tz4 => ?_)
  refine s_icmp_ne (tgt := 16) C dX7_pickSliced_6 (by decide) (fun q5 => ?_) (fun q5 => ?_)
  · refine s_aload_n C dX7_pickSliced_16 rfl ?_
    refine s_iconst C dX7_pickSliced_17 (by decide) (fun z6 tz6 => ?_)
    refine s_iload_n C dX7_pickSliced_18 rfl ?_
    refine s_callVI (st := []) C (c_X7_flaggedAt_2 l ad τ2 z6 b hXτ2 (by omega)) cv_X7_121 y39 rfl rfl rfl ⟨by decide, by decide⟩ (Nat.le_of_ble_eq_true rfl) dX7_pickSliced_19 ?_
    intro r7 τ8 h9
    obtain ⟨eh9, h9⟩ := h9; replace eh9 := eh9.symm; subst eh9
    exact s_iret C X dX7_pickSliced_22 ⟨hXτ2, (Fr.tr Fr.rf (Fr.mo h3.2.1 (by decide) (by decide))), trivial⟩
  · refine s_aload_n C dX7_pickSliced_9 rfl ?_
    refine s_get (k := 7) (x := (τ2.1 39 7)) C y39 fw_X7_25 rfl rfl dX7_pickSliced_10 ?_
    refine s_goto (tgt := 22) C dX7_pickSliced_13 (by decide) ?_
    exact s_iret C X dX7_pickSliced_22 ⟨hXτ2, (Fr.tr Fr.rf (Fr.mo h3.2.1 (by decide) (by decide))), trivial⟩
set_option maxRecDepth 100000 in
theorem c_X7_isExact_2 (l : Launch) (ad : Nat → Nat) (σ : Sg)  (hX : IX σ.1)  : Mt l yX7_isExact cX7_isExact 1 (some .boolean) 6 ad σ [.ref (ad 39)] (oI (fun r τ => IX τ.1 ∧ Fr [55, 56, 57] [(39, 3), (39, 4), (39, 5), (39, 6), (39, 7)] σ τ ∧ (r.toInt = 0 ∨ r.toInt = 1))) := by
  have hpr := hX.pr
  have hsz := hX.sz
  refine Mt_intro (by decide +kernel) (by simp [lg_sl, Value.category]) (fun E C X => ?_)
  show WP E ad 0 [some (.ref (ad 39))] [] σ
  refine s_aload_n C dX7_isExact_0 rfl ?_
  refine s_callVV (st := []) C (c_X7_needSlice_2 l ad σ  hX ) cv_X7_124 y39 rfl rfl rfl ⟨by decide, by decide⟩ (Nat.le_of_ble_eq_true rfl) dX7_isExact_1 ?_
  intro τ2 h3
  have hXτ2 := h3.1
  have hRτ2 := h3.2.2
  have prτ2 := hXτ2.pr
  have szτ2 := hXτ2.sz
  refine s_aload_n C dX7_isExact_4 rfl ?_
  refine s_get (k := 6) (x := (τ2.1 39 6)) C y39 fw_X7_21 rfl rfl dX7_isExact_5 ?_
  refine s_aload_n C dX7_isExact_8 rfl ?_
  refine s_get (k := 7) (x := (τ2.1 39 7)) C y39 fw_X7_25 rfl rfl dX7_isExact_9 ?_
  refine s_icmp_ne (tgt := 19) C dX7_isExact_12 (by decide) (fun q4 => ?_) (fun q4 => ?_)
  · refine s_iconst C dX7_isExact_19 (by decide) (fun z5 tz5 => ?_)
    exact s_zret C (by omega) X dX7_isExact_20 ⟨hXτ2, (Fr.tr Fr.rf (Fr.mo h3.2.1 (by decide) (by decide))), by omega⟩
  · refine s_iconst C dX7_isExact_15 (by decide) (fun z6 tz6 => ?_)
    refine s_goto (tgt := 20) C dX7_isExact_16 (by decide) ?_
    exact s_zret C (by omega) X dX7_isExact_20 ⟨hXτ2, (Fr.tr Fr.rf (Fr.mo h3.2.1 (by decide) (by decide))), by omega⟩
set_option maxRecDepth 100000 in
theorem c_X7_hasWayRound_2 (l : Launch) (ad : Nat → Nat) (σ : Sg)  (hX : IX σ.1)  : Mt l yX7_hasWayRound cX7_hasWayRound 1 (some .boolean) 5 ad σ [.ref (ad 39)] (oI (fun r τ => IX τ.1 ∧ Fr [55, 56, 57] [(39, 3), (39, 4), (39, 5), (39, 6), (39, 7)] σ τ ∧ (r.toInt = 0 ∨ r.toInt = 1))) := by
  have hpr := hX.pr
  have hsz := hX.sz
  refine Mt_intro (by decide +kernel) (by simp [lg_sl, Value.category]) (fun E C X => ?_)
  show WP E ad 0 [some (.ref (ad 39))] [] σ
  refine s_aload_n C dX7_hasWayRound_0 rfl ?_
  refine s_callVV (st := []) C (c_X7_needPassable_2 l ad σ  hX ) cv_X7_127 y39 rfl rfl rfl ⟨by decide, by decide⟩ (Nat.le_of_ble_eq_true rfl) dX7_hasWayRound_1 ?_
  intro τ2 h3
  have hXτ2 := h3.1
  have hRτ2 := h3.2.2
  have prτ2 := hXτ2.pr
  have szτ2 := hXτ2.sz
  refine s_aload_n C dX7_hasWayRound_4 rfl ?_
  refine s_getr (k := 8) (j := 55) C y39 fw_X7_28 rfl dX7_hasWayRound_5 ?_
  refine s_iconst C dX7_hasWayRound_8 (by decide) (fun z4 tz4 => ?_)
  refine s_iald (r := (τ2.1 55 z4.toNatClampNeg)) C y55 (by omega) rfl dX7_hasWayRound_9 ?_
  refine s_iconst C dX7_hasWayRound_10 (by decide) (fun z5 tz5 => ?_)
  refine s_iand C dX7_hasWayRound_11 (fun z6 tz6 => ?_)
  refine s_if_eq (tgt := 19) C dX7_hasWayRound_12 (by decide) (fun q7 => ?_) (fun q7 => ?_)
  · refine s_iconst C dX7_hasWayRound_19 (by decide) (fun z8 tz8 => ?_)
    exact s_zret C (by omega) X dX7_hasWayRound_20 ⟨hXτ2, (Fr.tr Fr.rf (Fr.mo h3.2.1 (by decide) (by decide))), by omega⟩
  · refine s_iconst C dX7_hasWayRound_15 (by decide) (fun z9 tz9 => ?_)
    refine s_goto (tgt := 20) C dX7_hasWayRound_16 (by decide) ?_
    exact s_zret C (by omega) X dX7_hasWayRound_20 ⟨hXτ2, (Fr.tr Fr.rf (Fr.mo h3.2.1 (by decide) (by decide))), by omega⟩
set_option maxRecDepth 100000 in
theorem L_stepR_2 (l : Launch) (ad : Nat → Nat) (E : Ev) (σ τ : Sg) (kF : Fr [55, 56, 57] [(39, 3), (39, 4), (39, 5), (39, 6), (39, 7)] σ τ) (hXτ : IX τ.1) (b : Int32) (hb : b.toInt ≤ 20) (C : Cx E l (rmk 6) 5 cX7_stepRound RX7) (X : Rx E ad (some .int) (oI (fun r τ => IX τ.1 ∧ Fr [55, 56, 57] [(39, 3), (39, 4), (39, 5), (39, 6), (39, 7)] σ τ ∧ True)))  : ∀ (n : Nat) (i : Int32) (p : Int32) (z : Int32), (-1 ≤ i.toInt ∧ i.toInt ≤ 1295) → (0 ≤ z.toInt) → (21 - z.toInt).toNat < n → WP E ad 42 [some (.ref (ad 39)), some (.int b), some (.int i), some (.int p), some (.int z)] [] τ := by
  intro n
  induction n with
  | zero => intro i p z hi h0 hm9; exact absurd hm9 (Nat.not_lt_zero _)
  | succ n ih =>
    intro i p z hi h0 hm9
    have hpr := hXτ.pr
    have hsz := hXτ.sz
    refine s_iload C dX7_stepRound_42 rfl ?_
    refine s_iload_n C dX7_stepRound_44 rfl ?_
    refine s_icmp_gt (tgt := 82) C dX7_stepRound_45 (by decide) (fun q1 => ?_) (fun q1 => ?_)
    · refine s_iload_n C dX7_stepRound_82 rfl ?_
      exact s_iret C X dX7_stepRound_83 ⟨hXτ, kF, trivial⟩
    · refine s_iload_n C dX7_stepRound_48 rfl ?_
      refine s_if_lt (tgt := 82) C dX7_stepRound_49 (by decide) (fun q2 => ?_) (fun q2 => ?_)
      · refine s_iload_n C dX7_stepRound_82 rfl ?_
        exact s_iret C X dX7_stepRound_83 ⟨hXτ, kF, trivial⟩
      · refine s_aload_n C dX7_stepRound_52 rfl ?_
        refine s_iload_n C dX7_stepRound_53 rfl ?_
        refine s_callVI (st := []) C (c_X7_passableStep_2 l ad τ i hXτ (by omega)) cv_X7_76 y39 rfl rfl rfl ⟨by decide, by decide⟩ (Nat.le_of_ble_eq_true rfl) dX7_stepRound_54 ?_
        intro r3 τ4 h5
        obtain ⟨eh5, h5⟩ := h5; replace eh5 := eh5.symm; subst eh5
        refine s_istore_n C dX7_stepRound_57 (by decide) (Nat.le_of_ble_eq_true rfl) rfl ?_
        show WP E ad 58 [some (.ref (ad 39)), some (.int b), some (.int i), some (.int r3), some (.int z)] [] τ
        refine s_iload_n C dX7_stepRound_58 rfl ?_
        refine s_if_lt (tgt := 74) C dX7_stepRound_59 (by decide) (fun q6 => ?_) (fun q6 => ?_)
        · refine s_iconst C dX7_stepRound_74 (by decide) (fun z7 tz7 => ?_)
          refine s_istore_n C dX7_stepRound_75 (by decide) (Nat.le_of_ble_eq_true rfl) rfl ?_
          show WP E ad 76 [some (.ref (ad 39)), some (.int b), some (.int z7), some (.int r3), some (.int z)] [] τ
          refine s_iinc C dX7_stepRound_76 rfl (by decide) rfl (by decide) (by omega) (fun z8 tz8 => ?_)
          show WP E ad 79 [some (.ref (ad 39)), some (.int b), some (.int z7), some (.int r3), some (.int z8)] [] τ
          refine s_goto (tgt := 42) C dX7_stepRound_79 (by decide) ?_
          exact ih z7 r3 z8 (by omega) (by omega) (by omega)
        · refine s_aload_n C dX7_stepRound_62 rfl ?_
          refine s_getr (k := 1) (j := 61) C y39 fw_X7_42 rfl dX7_stepRound_63 ?_
          refine s_iload_n C dX7_stepRound_66 rfl ?_
          refine s_iload_n C dX7_stepRound_67 rfl ?_
          refine s_callVI (st := []) C (c_X2_successor l ad τ i r3 hXτ (by omega) (by omega)) cv_X7_85 y61 rfl rfl rfl ⟨by decide, by decide⟩ (Nat.le_of_ble_eq_true rfl) dX7_stepRound_68 ?_
          intro r9 τ10 h11
          obtain ⟨eh11, h11⟩ := h11; replace eh11 := eh11.symm; subst eh11
          refine s_goto (tgt := 75) C dX7_stepRound_71 (by decide) ?_
          refine s_istore_n C dX7_stepRound_75 (by decide) (Nat.le_of_ble_eq_true rfl) rfl ?_
          show WP E ad 76 [some (.ref (ad 39)), some (.int b), some (.int r9), some (.int r3), some (.int z)] [] τ
          refine s_iinc C dX7_stepRound_76 rfl (by decide) rfl (by decide) (by omega) (fun z12 tz12 => ?_)
          show WP E ad 79 [some (.ref (ad 39)), some (.int b), some (.int r9), some (.int r3), some (.int z12)] [] τ
          refine s_goto (tgt := 42) C dX7_stepRound_79 (by decide) ?_
          exact ih r9 r3 z12 (by omega) (by omega) (by omega)
set_option maxRecDepth 100000 in
theorem c_X7_stepRound_2 (l : Launch) (ad : Nat → Nat) (σ : Sg) (b : Int32) (hX : IX σ.1) (hb : -1 ≤ b.toInt) : Mt l yX7_stepRound cX7_stepRound 5 (some .int) 6 ad σ [.ref (ad 39), .int b] (oI (fun r τ => IX τ.1 ∧ Fr [55, 56, 57] [(39, 3), (39, 4), (39, 5), (39, 6), (39, 7)] σ τ ∧ True)) := by
  have hpr := hX.pr
  have hsz := hX.sz
  refine Mt_intro (by decide +kernel) (by simp [lg_sl, Value.category]) (fun E C X => ?_)
  show WP E ad 0 [some (.ref (ad 39)), some (.int b), none, none, none] [] σ
  refine s_aload_n C dX7_stepRound_0 rfl ?_
  refine s_callVI (st := []) C (c_X7_hasWayRound_2 l ad σ  hX ) cv_X7_130 y39 rfl rfl rfl ⟨by decide, by decide⟩ (Nat.le_of_ble_eq_true rfl) dX7_stepRound_1 ?_
  intro r1 τ2 h3
  have hXτ2 := h3.1
  have hRτ2 := h3.2.2
  have prτ2 := hXτ2.pr
  have totτ2 := hXτ2.tot
  refine s_if_eq (tgt := 18) C dX7_stepRound_4 (by decide) (fun q4 => ?_) (fun q4 => ?_)
  · refine s_bipush C dX7_stepRound_18 (by decide) (fun z5 tz5 => ?_)
    exact s_iret C X dX7_stepRound_20 ⟨hXτ2, (Fr.tr Fr.rf (Fr.mo h3.2.1 (by decide) (by decide))), trivial⟩
  · refine s_iload_n C dX7_stepRound_7 rfl ?_
    refine s_aload_n C dX7_stepRound_8 rfl ?_
    refine s_getr (k := 2) (j := 1) C y39 fw_X7_46 rfl dX7_stepRound_9 ?_
    refine s_get (k := 1) (x := (τ2.1 1 1)) C y1 fw_X7_134 rfl rfl dX7_stepRound_12 ?_
    refine s_icmp_lt (tgt := 21) C dX7_stepRound_15 (by decide) (fun q6 => ?_) (fun q6 => ?_)
    · refine s_iload_n C dX7_stepRound_21 rfl ?_
      refine s_iconst C dX7_stepRound_22 (by decide) (fun z7 tz7 => ?_)
      refine s_icmp_ne (tgt := 34) C dX7_stepRound_23 (by decide) (fun q8 => ?_) (fun q8 => ?_)
      · refine s_iconst C dX7_stepRound_34 (by decide) (fun z9 tz9 => ?_)
        refine s_istore_n C dX7_stepRound_35 (by decide) (Nat.le_of_ble_eq_true rfl) rfl ?_
        show WP E ad 36 [some (.ref (ad 39)), some (.int b), some (.int z9), none, none] [] τ2
        refine s_bipush C dX7_stepRound_36 (by decide) (fun z10 tz10 => ?_)
        refine s_istore_n C dX7_stepRound_38 (by decide) (Nat.le_of_ble_eq_true rfl) rfl ?_
        show WP E ad 39 [some (.ref (ad 39)), some (.int b), some (.int z9), some (.int z10), none] [] τ2
        refine s_iconst C dX7_stepRound_39 (by decide) (fun z11 tz11 => ?_)
        refine s_istore C dX7_stepRound_40 (by decide) (Nat.le_of_ble_eq_true rfl) rfl ?_
        show WP E ad 42 [some (.ref (ad 39)), some (.int b), some (.int z9), some (.int z10), some (.int z11)] [] τ2
        exact L_stepR_2 l ad E σ τ2 (Fr.tr Fr.rf (Fr.mo h3.2.1 (by decide) (by decide))) hXτ2 b (by omega) C X 100 z9 z10 z11 (by omega) (by omega) (by omega)
      · refine s_aload_n C dX7_stepRound_26 rfl ?_
        refine s_getr (k := 2) (j := 1) C y39 fw_X7_46 rfl dX7_stepRound_27 ?_
        refine s_get (k := 1) (x := (τ2.1 1 1)) C y1 fw_X7_134 rfl rfl dX7_stepRound_30 ?_
        exact s_iret C X dX7_stepRound_33 ⟨hXτ2, (Fr.tr Fr.rf (Fr.mo h3.2.1 (by decide) (by decide))), trivial⟩
    · refine s_bipush C dX7_stepRound_18 (by decide) (fun z12 tz12 => ?_)
      exact s_iret C X dX7_stepRound_20 ⟨hXτ2, (Fr.tr Fr.rf (Fr.mo h3.2.1 (by decide) (by decide))), trivial⟩
set_option maxRecDepth 100000 in
theorem c_X7_leastWith_2 (l : Launch) (ad : Nat → Nat) (σ : Sg) (p : Int32) (n : Int32) (hX : IX σ.1) (hp : 0 ≤ p.toInt ∧ p.toInt ≤ 3) (hn : 1 ≤ n.toInt ∧ n.toInt ≤ 5) : Mt l yX7_leastWith cX7_leastWith 4 (some .int) 6 ad σ [.ref (ad 39), .int p, .int n] (oI (fun r τ => IX τ.1 ∧ Fr [55, 56, 57] [(39, 3), (39, 4), (39, 5), (39, 6), (39, 7)] σ τ ∧ True)) := by
  have hpr := hX.pr
  have hsz := hX.sz
  refine Mt_intro (by decide +kernel) (by simp [lg_sl, Value.category]) (fun E C X => ?_)
  show WP E ad 0 [some (.ref (ad 39)), some (.int p), some (.int n), none] [] σ
  refine s_aload_n C dX7_leastWith_0 rfl ?_
  refine s_callVV (st := []) C (c_X7_needSlice_2 l ad σ  hX ) cv_X7_124 y39 rfl rfl rfl ⟨by decide, by decide⟩ (Nat.le_of_ble_eq_true rfl) dX7_leastWith_1 ?_
  intro τ2 h3
  have hXτ2 := h3.1
  have hRτ2 := h3.2.2
  have prτ2 := hXτ2.pr
  have szτ2 := hXτ2.sz
  refine s_aload_n C dX7_leastWith_4 rfl ?_
  refine s_getr (k := 9) (j := 56) C y39 fw_X7_32 rfl dX7_leastWith_5 ?_
  refine s_iload_n C dX7_leastWith_8 rfl ?_
  refine s_bipush C dX7_leastWith_9 (by decide) (fun z4 tz4 => ?_)
  refine s_imulR C tz4 dX7_leastWith_11 (by omega) (fun z5 tz5 => ?_)
  refine s_iload_n C dX7_leastWith_12 rfl ?_
  refine s_iadd C dX7_leastWith_13 (by omega) (fun z6 tz6 => ?_)
  refine s_iald (r := (τ2.1 56 z6.toNatClampNeg)) C y56 (by omega) rfl dX7_leastWith_14 ?_
  refine s_istore_n C dX7_leastWith_15 (by decide) (Nat.le_of_ble_eq_true rfl) rfl ?_
  show WP E ad 16 [some (.ref (ad 39)), some (.int p), some (.int n), some (.int (τ2.1 56 z6.toNatClampNeg))] [] τ2
  refine s_iload_n C dX7_leastWith_16 rfl ?_
  refine s_iconst C dX7_leastWith_17 (by decide) (fun z7 tz7 => ?_)
  refine s_icmp_ne (tgt := 26) C dX7_leastWith_18 (by decide) (fun q8 => ?_) (fun q8 => ?_)
  · refine s_aload_n C dX7_leastWith_26 rfl ?_
    refine s_getr (k := 1) (j := 61) C y39 fw_X7_42 rfl dX7_leastWith_27 ?_
    refine s_iload_n C dX7_leastWith_30 rfl ?_
    refine s_callVI (st := []) C (c_X2_numberOf l ad τ2 ((τ2.1 56 z6.toNatClampNeg)) hXτ2) cv_X7_137 y61 rfl rfl rfl ⟨by decide, by decide⟩ (Nat.le_of_ble_eq_true rfl) dX7_leastWith_31 ?_
    intro r9 τ10 h11
    obtain ⟨eh11, h11⟩ := h11; replace eh11 := eh11.symm; subst eh11
    exact s_iret C X dX7_leastWith_34 ⟨hXτ2, (Fr.tr Fr.rf (Fr.mo h3.2.1 (by decide) (by decide))), trivial⟩
  · refine s_bipush C dX7_leastWith_21 (by decide) (fun z12 tz12 => ?_)
    refine s_goto (tgt := 34) C dX7_leastWith_23 (by decide) ?_
    exact s_iret C X dX7_leastWith_34 ⟨hXτ2, (Fr.tr Fr.rf (Fr.mo h3.2.1 (by decide) (by decide))), trivial⟩
set_option maxRecDepth 100000 in
theorem L_cmt_2_0 (l : Launch) (ad : Nat → Nat) (E : Ev) (σ : Sg) (C : Cx E l (rmk 2) 4 cX7_copyMetTo RX7) (X : Rx E ad (some .int) (oI (fun r τ => IX τ.1 ∧ Fr [58] [(40, 0)] σ τ ∧ True)))  : ∀ (n : Nat) (τ : Sg) (a : Int32) (z : Int32), (Fr [58] [(40, 0)] σ τ) → (IX τ.1) → (0 ≤ a.toInt ∧ a.toInt ≤ 20) → (0 ≤ z.toInt) → (1296 - z.toInt).toNat < n → WP E ad 17 [some (.ref (ad 39)), some (.ref (ad 40)), some (.int a), some (.int z)] [] τ := by
  intro n
  induction n with
  | zero => intro τ a z kF hXτ ha h0 hm9; exact absurd hm9 (Nat.not_lt_zero _)
  | succ n ih =>
    intro τ a z kF hXτ ha h0 hm9
    have hpr := hXτ.pr
    have hsz := hXτ.sz
    have hls := hXτ.L0
    refine s_iload_n C dX7_copyMetTo_17 rfl ?_
    refine s_aload_n C dX7_copyMetTo_18 rfl ?_
    refine s_getr (k := 1) (j := 61) C y39 fw_X7_42 rfl dX7_copyMetTo_19 ?_
    refine s_get (k := 2) (x := (τ.1 61 2)) C y61 fw_X7_62 rfl rfl dX7_copyMetTo_22 ?_
    refine s_icmp_ge (tgt := 64) C dX7_copyMetTo_25 (by decide) (fun q1 => ?_) (fun q1 => ?_)
    · refine s_aload_n C dX7_copyMetTo_64 rfl ?_
      refine s_get (k := 0) (x := (τ.1 40 0)) C y40 fw_X7_150 rfl rfl dX7_copyMetTo_65 ?_
      exact s_iret C X dX7_copyMetTo_68 ⟨hXτ, kF, trivial⟩
    · refine s_iload_n C dX7_copyMetTo_28 rfl ?_
      refine s_aload_n C dX7_copyMetTo_29 rfl ?_
      refine s_get (k := 0) (x := (τ.1 40 0)) C y40 fw_X7_150 rfl rfl dX7_copyMetTo_30 ?_
      refine s_icmp_ge (tgt := 64) C dX7_copyMetTo_33 (by decide) (fun q2 => ?_) (fun q2 => ?_)
      · refine s_aload_n C dX7_copyMetTo_64 rfl ?_
        refine s_get (k := 0) (x := (τ.1 40 0)) C y40 fw_X7_150 rfl rfl dX7_copyMetTo_65 ?_
        exact s_iret C X dX7_copyMetTo_68 ⟨hXτ, kF, trivial⟩
      · refine s_aload_n C dX7_copyMetTo_36 rfl ?_
        refine s_getr (k := 8) (j := 55) C y39 fw_X7_28 rfl dX7_copyMetTo_37 ?_
        refine s_iload_n C dX7_copyMetTo_40 rfl ?_
        refine s_iald (r := (τ.1 55 z.toNatClampNeg)) C y55 (by omega) rfl dX7_copyMetTo_41 ?_
        refine s_iconst C dX7_copyMetTo_42 (by decide) (fun z3 tz3 => ?_)
        refine s_iand C dX7_copyMetTo_43 (fun z4 tz4 => ?_)
        refine s_if_eq (tgt := 58) C dX7_copyMetTo_44 (by decide) (fun q5 => ?_) (fun q5 => ?_)
        · refine s_iinc C dX7_copyMetTo_58 rfl (by decide) rfl (by decide) (by omega) (fun z6 tz6 => ?_)
          show WP E ad 61 [some (.ref (ad 39)), some (.ref (ad 40)), some (.int a), some (.int z6)] [] τ
          refine s_goto (tgt := 17) C dX7_copyMetTo_61 (by decide) ?_
          exact ih τ a z6 (Fr.tr Fr.rf (Fr.mo kF (by decide) (by decide))) hXτ (by omega) (by omega) (by omega)
        · refine s_aload_n C dX7_copyMetTo_47 rfl ?_
          refine s_getr (k := 1) (j := 58) C y40 fw_X7_151 rfl dX7_copyMetTo_48 ?_
          refine s_iload_n C dX7_copyMetTo_51 rfl ?_
          refine s_iload_n C dX7_copyMetTo_52 rfl ?_
          refine s_i2l C dX7_copyMetTo_53 (fun L7 tL7 => ?_)
          refine s_last C y58 (by omega) dX7_copyMetTo_54 ?_
          refine s_iinc C dX7_copyMetTo_55 rfl (by decide) rfl (by decide) (by omega) (fun z8 tz8 => ?_)
          show WP E ad 58 [some (.ref (ad 39)), some (.ref (ad 40)), some (.int z8), some (.int z)] [] (sL τ 58 a.toNatClampNeg L7)
          refine s_iinc C dX7_copyMetTo_58 rfl (by decide) rfl (by decide) (by omega) (fun z9 tz9 => ?_)
          show WP E ad 61 [some (.ref (ad 39)), some (.ref (ad 40)), some (.int z8), some (.int z9)] [] (sL τ 58 a.toNatClampNeg L7)
          refine s_goto (tgt := 17) C dX7_copyMetTo_61 (by decide) ?_
          exact ih (sL τ 58 a.toNatClampNeg L7) z8 z9 (Fr.sL (Fr.tr Fr.rf (Fr.mo kF (by decide) (by decide))) (by decide)) hXτ (by omega) (by omega) (by omega)
set_option maxRecDepth 100000 in
theorem c_X7_copyMetTo_2_0 (l : Launch) (ad : Nat → Nat) (σ : Sg) (hX : IX σ.1) : Mt l yX7_copyMetTo cX7_copyMetTo 4 (some .int) 2 ad σ [.ref (ad 39), .ref (ad 40)] (oI (fun r τ => IX τ.1 ∧ Fr [58] [(40, 0)] σ τ ∧ True)) := by
  refine Mt_intro (by decide +kernel) (by simp [lg_sl, Value.category]) (fun E C X => ?_)
  show WP E ad 0 [some (.ref (ad 39)), some (.ref (ad 40)), none, none] [] σ
  refine s_aload_n C dX7_copyMetTo_0 rfl ?_
  refine s_aload_n C dX7_copyMetTo_1 rfl ?_
  refine s_get (k := 6) (x := (σ.1 39 6)) C y39 fw_X7_21 rfl rfl dX7_copyMetTo_2 ?_
  refine s_bipush C dX7_copyMetTo_5 (by decide) (fun z1 tz1 => ?_)
  refine s_mmin (idx := 140) C (mw 926 (by decide +kernel) rfl) (mw 927 (by decide +kernel) rfl) (mw 73 (by decide +kernel) rfl) (mw 928 (by decide +kernel) rfl) (by decide) (Nat.le_of_ble_eq_true rfl) dX7_copyMetTo_7 (fun z2 tz2 => ?_)
  refine s_callVV (st := []) C (c_X3_resize_0 l ad σ z2) cv_X7_145 y40 rfl rfl rfl ⟨by decide, by decide⟩ (Nat.le_of_ble_eq_true rfl) dX7_copyMetTo_10 ?_
  intro τ4 h5
  obtain ⟨LLh5, eh5⟩ := h5; subst eh5
  refine s_iconst C dX7_copyMetTo_13 (by decide) (fun z6 tz6 => ?_)
  refine s_istore_n C dX7_copyMetTo_14 (by decide) (Nat.le_of_ble_eq_true rfl) rfl ?_
  show WP E ad 15 [some (.ref (ad 39)), some (.ref (ad 40)), some (.int z6), none] [] (sQ (sV σ 40 0 z2) 58 (fun _ => LLh5))
  refine s_iconst C dX7_copyMetTo_15 (by decide) (fun z7 tz7 => ?_)
  refine s_istore_n C dX7_copyMetTo_16 (by decide) (Nat.le_of_ble_eq_true rfl) rfl ?_
  show WP E ad 17 [some (.ref (ad 39)), some (.ref (ad 40)), some (.int z6), some (.int z7)] [] (sQ (sV σ 40 0 z2) 58 (fun _ => LLh5))
  exact L_cmt_2_0 l ad E σ C X 5000 (sQ (sV σ 40 0 z2) 58 (fun _ => LLh5)) z6 z7 (Fr.sQ (Fr.sV Fr.rf (Or.inr (by decide))) (by decide)) ⟨hX.1, hX.2.1, hX.2.2.1, hX.2.2.2.1, hX.2.2.2.2.1, hX.2.2.2.2.2.1, hX.2.2.2.2.2.2.1, hX.2.2.2.2.2.2.2.1, (by show Int32.toInt z2 ≤ 20; omega), hX.2.2.2.2.2.2.2.2.2.1, hX.2.2.2.2.2.2.2.2.2.2.1, hX.2.2.2.2.2.2.2.2.2.2.2.1, hX.2.2.2.2.2.2.2.2.2.2.2.2.1, hX.2.2.2.2.2.2.2.2.2.2.2.2.2⟩ (by omega) (by omega) (by omega)
set_option maxRecDepth 100000 in
theorem L_judge_2_0 (l : Launch) (ad : Nat → Nat) (E : Ev) (σ : Sg) (hX : IX σ.1) (C : Cx E l (rmk 0) 4 cX7_judgeOf RX7) (X : Rx E ad (some .int) (oI (fun r τ => τ = σ ∧ True)))  : ∀ (n : Nat) (a : Int32) (z : Int32), (0 ≤ a.toInt ∧ a.toInt ≤ 20) → (0 ≤ z.toInt) → (1296 - z.toInt).toNat < n → WP E ad 4 [some (.ref (ad 39)), some (.ref (ad 40)), some (.int a), some (.int z)] [] σ := by
  intro n
  induction n with
  | zero => intro a z ha h0 hm9; exact absurd hm9 (Nat.not_lt_zero _)
  | succ n ih =>
    intro a z ha h0 hm9
    have hpr := hX.pr
    have hsz := hX.sz
    have hls := hX.L0
    refine s_iload_n C dX7_judgeOf_4 rfl ?_
    refine s_aload_n C dX7_judgeOf_5 rfl ?_
    refine s_getr (k := 1) (j := 61) C y39 fw_X7_42 rfl dX7_judgeOf_6 ?_
    refine s_get (k := 2) (x := (σ.1 61 2)) C y61 fw_X7_62 rfl rfl dX7_judgeOf_9 ?_
    refine s_icmp_ge (tgt := 57) C dX7_judgeOf_12 (by decide) (fun q1 => ?_) (fun q1 => ?_)
    · refine s_iload_n C dX7_judgeOf_57 rfl ?_
      refine s_aload_n C dX7_judgeOf_58 rfl ?_
      refine s_get (k := 0) (x := (σ.1 40 0)) C y40 fw_X7_150 rfl rfl dX7_judgeOf_59 ?_
      refine s_icmp_ne (tgt := 75) C dX7_judgeOf_62 (by decide) (fun q2 => ?_) (fun q2 => ?_)
      · refine s_iload_n C dX7_judgeOf_75 rfl ?_
        exact s_iret C X dX7_judgeOf_76 ⟨rfl, trivial⟩
      · refine s_bipush C dX7_judgeOf_65 (by decide) (fun z3 tz3 => ?_)
        refine s_aload_n C dX7_judgeOf_67 rfl ?_
        refine s_get (k := 0) (x := (σ.1 40 0)) C y40 fw_X7_150 rfl rfl dX7_judgeOf_68 ?_
        refine s_iaddU C dX7_judgeOf_71 (fun z4 tz4 => ?_)
        refine s_goto (tgt := 76) C dX7_judgeOf_72 (by decide) ?_
        exact s_iret C X dX7_judgeOf_76 ⟨rfl, trivial⟩
    · refine s_iload_n C dX7_judgeOf_15 rfl ?_
      refine s_aload_n C dX7_judgeOf_16 rfl ?_
      refine s_get (k := 0) (x := (σ.1 40 0)) C y40 fw_X7_150 rfl rfl dX7_judgeOf_17 ?_
      refine s_icmp_ge (tgt := 57) C dX7_judgeOf_20 (by decide) (fun q5 => ?_) (fun q5 => ?_)
      · refine s_iload_n C dX7_judgeOf_57 rfl ?_
        refine s_aload_n C dX7_judgeOf_58 rfl ?_
        refine s_get (k := 0) (x := (σ.1 40 0)) C y40 fw_X7_150 rfl rfl dX7_judgeOf_59 ?_
        refine s_icmp_ne (tgt := 75) C dX7_judgeOf_62 (by decide) (fun q6 => ?_) (fun q6 => ?_)
        · refine s_iload_n C dX7_judgeOf_75 rfl ?_
          exact s_iret C X dX7_judgeOf_76 ⟨rfl, trivial⟩
        · refine s_bipush C dX7_judgeOf_65 (by decide) (fun z7 tz7 => ?_)
          refine s_aload_n C dX7_judgeOf_67 rfl ?_
          refine s_get (k := 0) (x := (σ.1 40 0)) C y40 fw_X7_150 rfl rfl dX7_judgeOf_68 ?_
          refine s_iaddU C dX7_judgeOf_71 (fun z8 tz8 => ?_)
          refine s_goto (tgt := 76) C dX7_judgeOf_72 (by decide) ?_
          exact s_iret C X dX7_judgeOf_76 ⟨rfl, trivial⟩
      · refine s_aload_n C dX7_judgeOf_23 rfl ?_
        refine s_getr (k := 8) (j := 55) C y39 fw_X7_28 rfl dX7_judgeOf_24 ?_
        refine s_iload_n C dX7_judgeOf_27 rfl ?_
        refine s_iald (r := (σ.1 55 z.toNatClampNeg)) C y55 (by omega) rfl dX7_judgeOf_28 ?_
        refine s_iconst C dX7_judgeOf_29 (by decide) (fun z9 tz9 => ?_)
        refine s_iand C dX7_judgeOf_30 (fun z10 tz10 => ?_)
        refine s_if_eq (tgt := 51) C dX7_judgeOf_31 (by decide) (fun q11 => ?_) (fun q11 => ?_)
        · refine s_iinc C dX7_judgeOf_51 rfl (by decide) rfl (by decide) (by omega) (fun z12 tz12 => ?_)
          show WP E ad 54 [some (.ref (ad 39)), some (.ref (ad 40)), some (.int a), some (.int z12)] [] σ
          refine s_goto (tgt := 4) C dX7_judgeOf_54 (by decide) ?_
          exact ih a z12 (by omega) (by omega) (by omega)
        · refine s_aload_n C dX7_judgeOf_34 rfl ?_
          refine s_getr (k := 1) (j := 58) C y40 fw_X7_151 rfl dX7_judgeOf_35 ?_
          refine s_iload_n C dX7_judgeOf_38 rfl ?_
          refine s_lald (r := (σ.2 58 a.toNatClampNeg)) C y58 (by omega) rfl dX7_judgeOf_39 ?_
          refine s_iload_n C dX7_judgeOf_40 rfl ?_
          refine s_i2l C dX7_judgeOf_41 (fun L13 tL13 => ?_)
          refine s_lcmp C dX7_judgeOf_42 (fun z14 tz14 => ?_)
          refine s_if_eq (tgt := 48) C dX7_judgeOf_43 (by decide) (fun q15 => ?_) (fun q15 => ?_)
          · refine s_iinc C dX7_judgeOf_48 rfl (by decide) rfl (by decide) (by omega) (fun z16 tz16 => ?_)
            show WP E ad 51 [some (.ref (ad 39)), some (.ref (ad 40)), some (.int z16), some (.int z)] [] σ
            refine s_iinc C dX7_judgeOf_51 rfl (by decide) rfl (by decide) (by omega) (fun z17 tz17 => ?_)
            show WP E ad 54 [some (.ref (ad 39)), some (.ref (ad 40)), some (.int z16), some (.int z17)] [] σ
            refine s_goto (tgt := 4) C dX7_judgeOf_54 (by decide) ?_
            exact ih z16 z17 (by omega) (by omega) (by omega)
          · refine s_iload_n C dX7_judgeOf_46 rfl ?_
            exact s_iret C X dX7_judgeOf_47 ⟨rfl, trivial⟩
set_option maxRecDepth 100000 in
theorem c_X7_judgeOf_2_0 (l : Launch) (ad : Nat → Nat) (σ : Sg) (hX : IX σ.1) : Mt l yX7_judgeOf cX7_judgeOf 4 (some .int) 0 ad σ [.ref (ad 39), .ref (ad 40)] (oI (fun r τ => τ = σ ∧ True)) := by
  refine Mt_intro (by decide +kernel) (by simp [lg_sl, Value.category]) (fun E C X => ?_)
  show WP E ad 0 [some (.ref (ad 39)), some (.ref (ad 40)), none, none] [] σ
  refine s_iconst C dX7_judgeOf_0 (by decide) (fun z1 tz1 => ?_)
  refine s_istore_n C dX7_judgeOf_1 (by decide) (Nat.le_of_ble_eq_true rfl) rfl ?_
  show WP E ad 2 [some (.ref (ad 39)), some (.ref (ad 40)), some (.int z1), none] [] σ
  refine s_iconst C dX7_judgeOf_2 (by decide) (fun z2 tz2 => ?_)
  refine s_istore_n C dX7_judgeOf_3 (by decide) (Nat.le_of_ble_eq_true rfl) rfl ?_
  show WP E ad 4 [some (.ref (ad 39)), some (.ref (ad 40)), some (.int z1), some (.int z2)] [] σ
  exact L_judge_2_0 l ad E σ hX C X 5000 z1 z2 (by omega) (by omega) (by omega)
set_option maxRecDepth 100000 in
theorem L_cmt_2_1 (l : Launch) (ad : Nat → Nat) (E : Ev) (σ : Sg) (C : Cx E l (rmk 2) 4 cX7_copyMetTo RX7) (X : Rx E ad (some .int) (oI (fun r τ => IX τ.1 ∧ Fr [59] [(41, 0)] σ τ ∧ True)))  : ∀ (n : Nat) (τ : Sg) (a : Int32) (z : Int32), (Fr [59] [(41, 0)] σ τ) → (IX τ.1) → (0 ≤ a.toInt ∧ a.toInt ≤ 20) → (0 ≤ z.toInt) → (1296 - z.toInt).toNat < n → WP E ad 17 [some (.ref (ad 39)), some (.ref (ad 41)), some (.int a), some (.int z)] [] τ := by
  intro n
  induction n with
  | zero => intro τ a z kF hXτ ha h0 hm9; exact absurd hm9 (Nat.not_lt_zero _)
  | succ n ih =>
    intro τ a z kF hXτ ha h0 hm9
    have hpr := hXτ.pr
    have hsz := hXτ.sz
    have hls := hXτ.L1
    refine s_iload_n C dX7_copyMetTo_17 rfl ?_
    refine s_aload_n C dX7_copyMetTo_18 rfl ?_
    refine s_getr (k := 1) (j := 61) C y39 fw_X7_42 rfl dX7_copyMetTo_19 ?_
    refine s_get (k := 2) (x := (τ.1 61 2)) C y61 fw_X7_62 rfl rfl dX7_copyMetTo_22 ?_
    refine s_icmp_ge (tgt := 64) C dX7_copyMetTo_25 (by decide) (fun q1 => ?_) (fun q1 => ?_)
    · refine s_aload_n C dX7_copyMetTo_64 rfl ?_
      refine s_get (k := 0) (x := (τ.1 41 0)) C y41 fw_X7_150 rfl rfl dX7_copyMetTo_65 ?_
      exact s_iret C X dX7_copyMetTo_68 ⟨hXτ, kF, trivial⟩
    · refine s_iload_n C dX7_copyMetTo_28 rfl ?_
      refine s_aload_n C dX7_copyMetTo_29 rfl ?_
      refine s_get (k := 0) (x := (τ.1 41 0)) C y41 fw_X7_150 rfl rfl dX7_copyMetTo_30 ?_
      refine s_icmp_ge (tgt := 64) C dX7_copyMetTo_33 (by decide) (fun q2 => ?_) (fun q2 => ?_)
      · refine s_aload_n C dX7_copyMetTo_64 rfl ?_
        refine s_get (k := 0) (x := (τ.1 41 0)) C y41 fw_X7_150 rfl rfl dX7_copyMetTo_65 ?_
        exact s_iret C X dX7_copyMetTo_68 ⟨hXτ, kF, trivial⟩
      · refine s_aload_n C dX7_copyMetTo_36 rfl ?_
        refine s_getr (k := 8) (j := 55) C y39 fw_X7_28 rfl dX7_copyMetTo_37 ?_
        refine s_iload_n C dX7_copyMetTo_40 rfl ?_
        refine s_iald (r := (τ.1 55 z.toNatClampNeg)) C y55 (by omega) rfl dX7_copyMetTo_41 ?_
        refine s_iconst C dX7_copyMetTo_42 (by decide) (fun z3 tz3 => ?_)
        refine s_iand C dX7_copyMetTo_43 (fun z4 tz4 => ?_)
        refine s_if_eq (tgt := 58) C dX7_copyMetTo_44 (by decide) (fun q5 => ?_) (fun q5 => ?_)
        · refine s_iinc C dX7_copyMetTo_58 rfl (by decide) rfl (by decide) (by omega) (fun z6 tz6 => ?_)
          show WP E ad 61 [some (.ref (ad 39)), some (.ref (ad 41)), some (.int a), some (.int z6)] [] τ
          refine s_goto (tgt := 17) C dX7_copyMetTo_61 (by decide) ?_
          exact ih τ a z6 (Fr.tr Fr.rf (Fr.mo kF (by decide) (by decide))) hXτ (by omega) (by omega) (by omega)
        · refine s_aload_n C dX7_copyMetTo_47 rfl ?_
          refine s_getr (k := 1) (j := 59) C y41 fw_X7_151 rfl dX7_copyMetTo_48 ?_
          refine s_iload_n C dX7_copyMetTo_51 rfl ?_
          refine s_iload_n C dX7_copyMetTo_52 rfl ?_
          refine s_i2l C dX7_copyMetTo_53 (fun L7 tL7 => ?_)
          refine s_last C y59 (by omega) dX7_copyMetTo_54 ?_
          refine s_iinc C dX7_copyMetTo_55 rfl (by decide) rfl (by decide) (by omega) (fun z8 tz8 => ?_)
          show WP E ad 58 [some (.ref (ad 39)), some (.ref (ad 41)), some (.int z8), some (.int z)] [] (sL τ 59 a.toNatClampNeg L7)
          refine s_iinc C dX7_copyMetTo_58 rfl (by decide) rfl (by decide) (by omega) (fun z9 tz9 => ?_)
          show WP E ad 61 [some (.ref (ad 39)), some (.ref (ad 41)), some (.int z8), some (.int z9)] [] (sL τ 59 a.toNatClampNeg L7)
          refine s_goto (tgt := 17) C dX7_copyMetTo_61 (by decide) ?_
          exact ih (sL τ 59 a.toNatClampNeg L7) z8 z9 (Fr.sL (Fr.tr Fr.rf (Fr.mo kF (by decide) (by decide))) (by decide)) hXτ (by omega) (by omega) (by omega)
set_option maxRecDepth 100000 in
theorem c_X7_copyMetTo_2_1 (l : Launch) (ad : Nat → Nat) (σ : Sg) (hX : IX σ.1) : Mt l yX7_copyMetTo cX7_copyMetTo 4 (some .int) 2 ad σ [.ref (ad 39), .ref (ad 41)] (oI (fun r τ => IX τ.1 ∧ Fr [59] [(41, 0)] σ τ ∧ True)) := by
  refine Mt_intro (by decide +kernel) (by simp [lg_sl, Value.category]) (fun E C X => ?_)
  show WP E ad 0 [some (.ref (ad 39)), some (.ref (ad 41)), none, none] [] σ
  refine s_aload_n C dX7_copyMetTo_0 rfl ?_
  refine s_aload_n C dX7_copyMetTo_1 rfl ?_
  refine s_get (k := 6) (x := (σ.1 39 6)) C y39 fw_X7_21 rfl rfl dX7_copyMetTo_2 ?_
  refine s_bipush C dX7_copyMetTo_5 (by decide) (fun z1 tz1 => ?_)
  refine s_mmin (idx := 140) C (mw 926 (by decide +kernel) rfl) (mw 927 (by decide +kernel) rfl) (mw 73 (by decide +kernel) rfl) (mw 928 (by decide +kernel) rfl) (by decide) (Nat.le_of_ble_eq_true rfl) dX7_copyMetTo_7 (fun z2 tz2 => ?_)
  refine s_callVV (st := []) C (c_X3_resize_1 l ad σ z2) cv_X7_145 y41 rfl rfl rfl ⟨by decide, by decide⟩ (Nat.le_of_ble_eq_true rfl) dX7_copyMetTo_10 ?_
  intro τ4 h5
  obtain ⟨LLh5, eh5⟩ := h5; subst eh5
  refine s_iconst C dX7_copyMetTo_13 (by decide) (fun z6 tz6 => ?_)
  refine s_istore_n C dX7_copyMetTo_14 (by decide) (Nat.le_of_ble_eq_true rfl) rfl ?_
  show WP E ad 15 [some (.ref (ad 39)), some (.ref (ad 41)), some (.int z6), none] [] (sQ (sV σ 41 0 z2) 59 (fun _ => LLh5))
  refine s_iconst C dX7_copyMetTo_15 (by decide) (fun z7 tz7 => ?_)
  refine s_istore_n C dX7_copyMetTo_16 (by decide) (Nat.le_of_ble_eq_true rfl) rfl ?_
  show WP E ad 17 [some (.ref (ad 39)), some (.ref (ad 41)), some (.int z6), some (.int z7)] [] (sQ (sV σ 41 0 z2) 59 (fun _ => LLh5))
  exact L_cmt_2_1 l ad E σ C X 5000 (sQ (sV σ 41 0 z2) 59 (fun _ => LLh5)) z6 z7 (Fr.sQ (Fr.sV Fr.rf (Or.inr (by decide))) (by decide)) ⟨hX.1, hX.2.1, hX.2.2.1, hX.2.2.2.1, hX.2.2.2.2.1, hX.2.2.2.2.2.1, hX.2.2.2.2.2.2.1, hX.2.2.2.2.2.2.2.1, hX.2.2.2.2.2.2.2.2.1, (by show Int32.toInt z2 ≤ 20; omega), hX.2.2.2.2.2.2.2.2.2.2.1, hX.2.2.2.2.2.2.2.2.2.2.2.1, hX.2.2.2.2.2.2.2.2.2.2.2.2.1, hX.2.2.2.2.2.2.2.2.2.2.2.2.2⟩ (by omega) (by omega) (by omega)
set_option maxRecDepth 100000 in
theorem L_judge_2_1 (l : Launch) (ad : Nat → Nat) (E : Ev) (σ : Sg) (hX : IX σ.1) (C : Cx E l (rmk 0) 4 cX7_judgeOf RX7) (X : Rx E ad (some .int) (oI (fun r τ => τ = σ ∧ True)))  : ∀ (n : Nat) (a : Int32) (z : Int32), (0 ≤ a.toInt ∧ a.toInt ≤ 20) → (0 ≤ z.toInt) → (1296 - z.toInt).toNat < n → WP E ad 4 [some (.ref (ad 39)), some (.ref (ad 41)), some (.int a), some (.int z)] [] σ := by
  intro n
  induction n with
  | zero => intro a z ha h0 hm9; exact absurd hm9 (Nat.not_lt_zero _)
  | succ n ih =>
    intro a z ha h0 hm9
    have hpr := hX.pr
    have hsz := hX.sz
    have hls := hX.L1
    refine s_iload_n C dX7_judgeOf_4 rfl ?_
    refine s_aload_n C dX7_judgeOf_5 rfl ?_
    refine s_getr (k := 1) (j := 61) C y39 fw_X7_42 rfl dX7_judgeOf_6 ?_
    refine s_get (k := 2) (x := (σ.1 61 2)) C y61 fw_X7_62 rfl rfl dX7_judgeOf_9 ?_
    refine s_icmp_ge (tgt := 57) C dX7_judgeOf_12 (by decide) (fun q1 => ?_) (fun q1 => ?_)
    · refine s_iload_n C dX7_judgeOf_57 rfl ?_
      refine s_aload_n C dX7_judgeOf_58 rfl ?_
      refine s_get (k := 0) (x := (σ.1 41 0)) C y41 fw_X7_150 rfl rfl dX7_judgeOf_59 ?_
      refine s_icmp_ne (tgt := 75) C dX7_judgeOf_62 (by decide) (fun q2 => ?_) (fun q2 => ?_)
      · refine s_iload_n C dX7_judgeOf_75 rfl ?_
        exact s_iret C X dX7_judgeOf_76 ⟨rfl, trivial⟩
      · refine s_bipush C dX7_judgeOf_65 (by decide) (fun z3 tz3 => ?_)
        refine s_aload_n C dX7_judgeOf_67 rfl ?_
        refine s_get (k := 0) (x := (σ.1 41 0)) C y41 fw_X7_150 rfl rfl dX7_judgeOf_68 ?_
        refine s_iaddU C dX7_judgeOf_71 (fun z4 tz4 => ?_)
        refine s_goto (tgt := 76) C dX7_judgeOf_72 (by decide) ?_
        exact s_iret C X dX7_judgeOf_76 ⟨rfl, trivial⟩
    · refine s_iload_n C dX7_judgeOf_15 rfl ?_
      refine s_aload_n C dX7_judgeOf_16 rfl ?_
      refine s_get (k := 0) (x := (σ.1 41 0)) C y41 fw_X7_150 rfl rfl dX7_judgeOf_17 ?_
      refine s_icmp_ge (tgt := 57) C dX7_judgeOf_20 (by decide) (fun q5 => ?_) (fun q5 => ?_)
      · refine s_iload_n C dX7_judgeOf_57 rfl ?_
        refine s_aload_n C dX7_judgeOf_58 rfl ?_
        refine s_get (k := 0) (x := (σ.1 41 0)) C y41 fw_X7_150 rfl rfl dX7_judgeOf_59 ?_
        refine s_icmp_ne (tgt := 75) C dX7_judgeOf_62 (by decide) (fun q6 => ?_) (fun q6 => ?_)
        · refine s_iload_n C dX7_judgeOf_75 rfl ?_
          exact s_iret C X dX7_judgeOf_76 ⟨rfl, trivial⟩
        · refine s_bipush C dX7_judgeOf_65 (by decide) (fun z7 tz7 => ?_)
          refine s_aload_n C dX7_judgeOf_67 rfl ?_
          refine s_get (k := 0) (x := (σ.1 41 0)) C y41 fw_X7_150 rfl rfl dX7_judgeOf_68 ?_
          refine s_iaddU C dX7_judgeOf_71 (fun z8 tz8 => ?_)
          refine s_goto (tgt := 76) C dX7_judgeOf_72 (by decide) ?_
          exact s_iret C X dX7_judgeOf_76 ⟨rfl, trivial⟩
      · refine s_aload_n C dX7_judgeOf_23 rfl ?_
        refine s_getr (k := 8) (j := 55) C y39 fw_X7_28 rfl dX7_judgeOf_24 ?_
        refine s_iload_n C dX7_judgeOf_27 rfl ?_
        refine s_iald (r := (σ.1 55 z.toNatClampNeg)) C y55 (by omega) rfl dX7_judgeOf_28 ?_
        refine s_iconst C dX7_judgeOf_29 (by decide) (fun z9 tz9 => ?_)
        refine s_iand C dX7_judgeOf_30 (fun z10 tz10 => ?_)
        refine s_if_eq (tgt := 51) C dX7_judgeOf_31 (by decide) (fun q11 => ?_) (fun q11 => ?_)
        · refine s_iinc C dX7_judgeOf_51 rfl (by decide) rfl (by decide) (by omega) (fun z12 tz12 => ?_)
          show WP E ad 54 [some (.ref (ad 39)), some (.ref (ad 41)), some (.int a), some (.int z12)] [] σ
          refine s_goto (tgt := 4) C dX7_judgeOf_54 (by decide) ?_
          exact ih a z12 (by omega) (by omega) (by omega)
        · refine s_aload_n C dX7_judgeOf_34 rfl ?_
          refine s_getr (k := 1) (j := 59) C y41 fw_X7_151 rfl dX7_judgeOf_35 ?_
          refine s_iload_n C dX7_judgeOf_38 rfl ?_
          refine s_lald (r := (σ.2 59 a.toNatClampNeg)) C y59 (by omega) rfl dX7_judgeOf_39 ?_
          refine s_iload_n C dX7_judgeOf_40 rfl ?_
          refine s_i2l C dX7_judgeOf_41 (fun L13 tL13 => ?_)
          refine s_lcmp C dX7_judgeOf_42 (fun z14 tz14 => ?_)
          refine s_if_eq (tgt := 48) C dX7_judgeOf_43 (by decide) (fun q15 => ?_) (fun q15 => ?_)
          · refine s_iinc C dX7_judgeOf_48 rfl (by decide) rfl (by decide) (by omega) (fun z16 tz16 => ?_)
            show WP E ad 51 [some (.ref (ad 39)), some (.ref (ad 41)), some (.int z16), some (.int z)] [] σ
            refine s_iinc C dX7_judgeOf_51 rfl (by decide) rfl (by decide) (by omega) (fun z17 tz17 => ?_)
            show WP E ad 54 [some (.ref (ad 39)), some (.ref (ad 41)), some (.int z16), some (.int z17)] [] σ
            refine s_goto (tgt := 4) C dX7_judgeOf_54 (by decide) ?_
            exact ih z16 z17 (by omega) (by omega) (by omega)
          · refine s_iload_n C dX7_judgeOf_46 rfl ?_
            exact s_iret C X dX7_judgeOf_47 ⟨rfl, trivial⟩
set_option maxRecDepth 100000 in
theorem c_X7_judgeOf_2_1 (l : Launch) (ad : Nat → Nat) (σ : Sg) (hX : IX σ.1) : Mt l yX7_judgeOf cX7_judgeOf 4 (some .int) 0 ad σ [.ref (ad 39), .ref (ad 41)] (oI (fun r τ => τ = σ ∧ True)) := by
  refine Mt_intro (by decide +kernel) (by simp [lg_sl, Value.category]) (fun E C X => ?_)
  show WP E ad 0 [some (.ref (ad 39)), some (.ref (ad 41)), none, none] [] σ
  refine s_iconst C dX7_judgeOf_0 (by decide) (fun z1 tz1 => ?_)
  refine s_istore_n C dX7_judgeOf_1 (by decide) (Nat.le_of_ble_eq_true rfl) rfl ?_
  show WP E ad 2 [some (.ref (ad 39)), some (.ref (ad 41)), some (.int z1), none] [] σ
  refine s_iconst C dX7_judgeOf_2 (by decide) (fun z2 tz2 => ?_)
  refine s_istore_n C dX7_judgeOf_3 (by decide) (Nat.le_of_ble_eq_true rfl) rfl ?_
  show WP E ad 4 [some (.ref (ad 39)), some (.ref (ad 41)), some (.int z1), some (.int z2)] [] σ
  exact L_judge_2_1 l ad E σ hX C X 5000 z1 z2 (by omega) (by omega) (by omega)
set_option maxRecDepth 100000 in
theorem L_cmt_2_2 (l : Launch) (ad : Nat → Nat) (E : Ev) (σ : Sg) (C : Cx E l (rmk 2) 4 cX7_copyMetTo RX7) (X : Rx E ad (some .int) (oI (fun r τ => IX τ.1 ∧ Fr [60] [(42, 0)] σ τ ∧ True)))  : ∀ (n : Nat) (τ : Sg) (a : Int32) (z : Int32), (Fr [60] [(42, 0)] σ τ) → (IX τ.1) → (0 ≤ a.toInt ∧ a.toInt ≤ 20) → (0 ≤ z.toInt) → (1296 - z.toInt).toNat < n → WP E ad 17 [some (.ref (ad 39)), some (.ref (ad 42)), some (.int a), some (.int z)] [] τ := by
  intro n
  induction n with
  | zero => intro τ a z kF hXτ ha h0 hm9; exact absurd hm9 (Nat.not_lt_zero _)
  | succ n ih =>
    intro τ a z kF hXτ ha h0 hm9
    have hpr := hXτ.pr
    have hsz := hXτ.sz
    have hls := hXτ.L2
    refine s_iload_n C dX7_copyMetTo_17 rfl ?_
    refine s_aload_n C dX7_copyMetTo_18 rfl ?_
    refine s_getr (k := 1) (j := 61) C y39 fw_X7_42 rfl dX7_copyMetTo_19 ?_
    refine s_get (k := 2) (x := (τ.1 61 2)) C y61 fw_X7_62 rfl rfl dX7_copyMetTo_22 ?_
    refine s_icmp_ge (tgt := 64) C dX7_copyMetTo_25 (by decide) (fun q1 => ?_) (fun q1 => ?_)
    · refine s_aload_n C dX7_copyMetTo_64 rfl ?_
      refine s_get (k := 0) (x := (τ.1 42 0)) C y42 fw_X7_150 rfl rfl dX7_copyMetTo_65 ?_
      exact s_iret C X dX7_copyMetTo_68 ⟨hXτ, kF, trivial⟩
    · refine s_iload_n C dX7_copyMetTo_28 rfl ?_
      refine s_aload_n C dX7_copyMetTo_29 rfl ?_
      refine s_get (k := 0) (x := (τ.1 42 0)) C y42 fw_X7_150 rfl rfl dX7_copyMetTo_30 ?_
      refine s_icmp_ge (tgt := 64) C dX7_copyMetTo_33 (by decide) (fun q2 => ?_) (fun q2 => ?_)
      · refine s_aload_n C dX7_copyMetTo_64 rfl ?_
        refine s_get (k := 0) (x := (τ.1 42 0)) C y42 fw_X7_150 rfl rfl dX7_copyMetTo_65 ?_
        exact s_iret C X dX7_copyMetTo_68 ⟨hXτ, kF, trivial⟩
      · refine s_aload_n C dX7_copyMetTo_36 rfl ?_
        refine s_getr (k := 8) (j := 55) C y39 fw_X7_28 rfl dX7_copyMetTo_37 ?_
        refine s_iload_n C dX7_copyMetTo_40 rfl ?_
        refine s_iald (r := (τ.1 55 z.toNatClampNeg)) C y55 (by omega) rfl dX7_copyMetTo_41 ?_
        refine s_iconst C dX7_copyMetTo_42 (by decide) (fun z3 tz3 => ?_)
        refine s_iand C dX7_copyMetTo_43 (fun z4 tz4 => ?_)
        refine s_if_eq (tgt := 58) C dX7_copyMetTo_44 (by decide) (fun q5 => ?_) (fun q5 => ?_)
        · refine s_iinc C dX7_copyMetTo_58 rfl (by decide) rfl (by decide) (by omega) (fun z6 tz6 => ?_)
          show WP E ad 61 [some (.ref (ad 39)), some (.ref (ad 42)), some (.int a), some (.int z6)] [] τ
          refine s_goto (tgt := 17) C dX7_copyMetTo_61 (by decide) ?_
          exact ih τ a z6 (Fr.tr Fr.rf (Fr.mo kF (by decide) (by decide))) hXτ (by omega) (by omega) (by omega)
        · refine s_aload_n C dX7_copyMetTo_47 rfl ?_
          refine s_getr (k := 1) (j := 60) C y42 fw_X7_151 rfl dX7_copyMetTo_48 ?_
          refine s_iload_n C dX7_copyMetTo_51 rfl ?_
          refine s_iload_n C dX7_copyMetTo_52 rfl ?_
          refine s_i2l C dX7_copyMetTo_53 (fun L7 tL7 => ?_)
          refine s_last C y60 (by omega) dX7_copyMetTo_54 ?_
          refine s_iinc C dX7_copyMetTo_55 rfl (by decide) rfl (by decide) (by omega) (fun z8 tz8 => ?_)
          show WP E ad 58 [some (.ref (ad 39)), some (.ref (ad 42)), some (.int z8), some (.int z)] [] (sL τ 60 a.toNatClampNeg L7)
          refine s_iinc C dX7_copyMetTo_58 rfl (by decide) rfl (by decide) (by omega) (fun z9 tz9 => ?_)
          show WP E ad 61 [some (.ref (ad 39)), some (.ref (ad 42)), some (.int z8), some (.int z9)] [] (sL τ 60 a.toNatClampNeg L7)
          refine s_goto (tgt := 17) C dX7_copyMetTo_61 (by decide) ?_
          exact ih (sL τ 60 a.toNatClampNeg L7) z8 z9 (Fr.sL (Fr.tr Fr.rf (Fr.mo kF (by decide) (by decide))) (by decide)) hXτ (by omega) (by omega) (by omega)
set_option maxRecDepth 100000 in
theorem c_X7_copyMetTo_2_2 (l : Launch) (ad : Nat → Nat) (σ : Sg) (hX : IX σ.1) : Mt l yX7_copyMetTo cX7_copyMetTo 4 (some .int) 2 ad σ [.ref (ad 39), .ref (ad 42)] (oI (fun r τ => IX τ.1 ∧ Fr [60] [(42, 0)] σ τ ∧ True)) := by
  refine Mt_intro (by decide +kernel) (by simp [lg_sl, Value.category]) (fun E C X => ?_)
  show WP E ad 0 [some (.ref (ad 39)), some (.ref (ad 42)), none, none] [] σ
  refine s_aload_n C dX7_copyMetTo_0 rfl ?_
  refine s_aload_n C dX7_copyMetTo_1 rfl ?_
  refine s_get (k := 6) (x := (σ.1 39 6)) C y39 fw_X7_21 rfl rfl dX7_copyMetTo_2 ?_
  refine s_bipush C dX7_copyMetTo_5 (by decide) (fun z1 tz1 => ?_)
  refine s_mmin (idx := 140) C (mw 926 (by decide +kernel) rfl) (mw 927 (by decide +kernel) rfl) (mw 73 (by decide +kernel) rfl) (mw 928 (by decide +kernel) rfl) (by decide) (Nat.le_of_ble_eq_true rfl) dX7_copyMetTo_7 (fun z2 tz2 => ?_)
  refine s_callVV (st := []) C (c_X3_resize_2 l ad σ z2) cv_X7_145 y42 rfl rfl rfl ⟨by decide, by decide⟩ (Nat.le_of_ble_eq_true rfl) dX7_copyMetTo_10 ?_
  intro τ4 h5
  obtain ⟨LLh5, eh5⟩ := h5; subst eh5
  refine s_iconst C dX7_copyMetTo_13 (by decide) (fun z6 tz6 => ?_)
  refine s_istore_n C dX7_copyMetTo_14 (by decide) (Nat.le_of_ble_eq_true rfl) rfl ?_
  show WP E ad 15 [some (.ref (ad 39)), some (.ref (ad 42)), some (.int z6), none] [] (sQ (sV σ 42 0 z2) 60 (fun _ => LLh5))
  refine s_iconst C dX7_copyMetTo_15 (by decide) (fun z7 tz7 => ?_)
  refine s_istore_n C dX7_copyMetTo_16 (by decide) (Nat.le_of_ble_eq_true rfl) rfl ?_
  show WP E ad 17 [some (.ref (ad 39)), some (.ref (ad 42)), some (.int z6), some (.int z7)] [] (sQ (sV σ 42 0 z2) 60 (fun _ => LLh5))
  exact L_cmt_2_2 l ad E σ C X 5000 (sQ (sV σ 42 0 z2) 60 (fun _ => LLh5)) z6 z7 (Fr.sQ (Fr.sV Fr.rf (Or.inr (by decide))) (by decide)) ⟨hX.1, hX.2.1, hX.2.2.1, hX.2.2.2.1, hX.2.2.2.2.1, hX.2.2.2.2.2.1, hX.2.2.2.2.2.2.1, hX.2.2.2.2.2.2.2.1, hX.2.2.2.2.2.2.2.2.1, hX.2.2.2.2.2.2.2.2.2.1, (by show Int32.toInt z2 ≤ 20; omega), hX.2.2.2.2.2.2.2.2.2.2.2.1, hX.2.2.2.2.2.2.2.2.2.2.2.2.1, hX.2.2.2.2.2.2.2.2.2.2.2.2.2⟩ (by omega) (by omega) (by omega)
set_option maxRecDepth 100000 in
theorem L_judge_2_2 (l : Launch) (ad : Nat → Nat) (E : Ev) (σ : Sg) (hX : IX σ.1) (C : Cx E l (rmk 0) 4 cX7_judgeOf RX7) (X : Rx E ad (some .int) (oI (fun r τ => τ = σ ∧ True)))  : ∀ (n : Nat) (a : Int32) (z : Int32), (0 ≤ a.toInt ∧ a.toInt ≤ 20) → (0 ≤ z.toInt) → (1296 - z.toInt).toNat < n → WP E ad 4 [some (.ref (ad 39)), some (.ref (ad 42)), some (.int a), some (.int z)] [] σ := by
  intro n
  induction n with
  | zero => intro a z ha h0 hm9; exact absurd hm9 (Nat.not_lt_zero _)
  | succ n ih =>
    intro a z ha h0 hm9
    have hpr := hX.pr
    have hsz := hX.sz
    have hls := hX.L2
    refine s_iload_n C dX7_judgeOf_4 rfl ?_
    refine s_aload_n C dX7_judgeOf_5 rfl ?_
    refine s_getr (k := 1) (j := 61) C y39 fw_X7_42 rfl dX7_judgeOf_6 ?_
    refine s_get (k := 2) (x := (σ.1 61 2)) C y61 fw_X7_62 rfl rfl dX7_judgeOf_9 ?_
    refine s_icmp_ge (tgt := 57) C dX7_judgeOf_12 (by decide) (fun q1 => ?_) (fun q1 => ?_)
    · refine s_iload_n C dX7_judgeOf_57 rfl ?_
      refine s_aload_n C dX7_judgeOf_58 rfl ?_
      refine s_get (k := 0) (x := (σ.1 42 0)) C y42 fw_X7_150 rfl rfl dX7_judgeOf_59 ?_
      refine s_icmp_ne (tgt := 75) C dX7_judgeOf_62 (by decide) (fun q2 => ?_) (fun q2 => ?_)
      · refine s_iload_n C dX7_judgeOf_75 rfl ?_
        exact s_iret C X dX7_judgeOf_76 ⟨rfl, trivial⟩
      · refine s_bipush C dX7_judgeOf_65 (by decide) (fun z3 tz3 => ?_)
        refine s_aload_n C dX7_judgeOf_67 rfl ?_
        refine s_get (k := 0) (x := (σ.1 42 0)) C y42 fw_X7_150 rfl rfl dX7_judgeOf_68 ?_
        refine s_iaddU C dX7_judgeOf_71 (fun z4 tz4 => ?_)
        refine s_goto (tgt := 76) C dX7_judgeOf_72 (by decide) ?_
        exact s_iret C X dX7_judgeOf_76 ⟨rfl, trivial⟩
    · refine s_iload_n C dX7_judgeOf_15 rfl ?_
      refine s_aload_n C dX7_judgeOf_16 rfl ?_
      refine s_get (k := 0) (x := (σ.1 42 0)) C y42 fw_X7_150 rfl rfl dX7_judgeOf_17 ?_
      refine s_icmp_ge (tgt := 57) C dX7_judgeOf_20 (by decide) (fun q5 => ?_) (fun q5 => ?_)
      · refine s_iload_n C dX7_judgeOf_57 rfl ?_
        refine s_aload_n C dX7_judgeOf_58 rfl ?_
        refine s_get (k := 0) (x := (σ.1 42 0)) C y42 fw_X7_150 rfl rfl dX7_judgeOf_59 ?_
        refine s_icmp_ne (tgt := 75) C dX7_judgeOf_62 (by decide) (fun q6 => ?_) (fun q6 => ?_)
        · refine s_iload_n C dX7_judgeOf_75 rfl ?_
          exact s_iret C X dX7_judgeOf_76 ⟨rfl, trivial⟩
        · refine s_bipush C dX7_judgeOf_65 (by decide) (fun z7 tz7 => ?_)
          refine s_aload_n C dX7_judgeOf_67 rfl ?_
          refine s_get (k := 0) (x := (σ.1 42 0)) C y42 fw_X7_150 rfl rfl dX7_judgeOf_68 ?_
          refine s_iaddU C dX7_judgeOf_71 (fun z8 tz8 => ?_)
          refine s_goto (tgt := 76) C dX7_judgeOf_72 (by decide) ?_
          exact s_iret C X dX7_judgeOf_76 ⟨rfl, trivial⟩
      · refine s_aload_n C dX7_judgeOf_23 rfl ?_
        refine s_getr (k := 8) (j := 55) C y39 fw_X7_28 rfl dX7_judgeOf_24 ?_
        refine s_iload_n C dX7_judgeOf_27 rfl ?_
        refine s_iald (r := (σ.1 55 z.toNatClampNeg)) C y55 (by omega) rfl dX7_judgeOf_28 ?_
        refine s_iconst C dX7_judgeOf_29 (by decide) (fun z9 tz9 => ?_)
        refine s_iand C dX7_judgeOf_30 (fun z10 tz10 => ?_)
        refine s_if_eq (tgt := 51) C dX7_judgeOf_31 (by decide) (fun q11 => ?_) (fun q11 => ?_)
        · refine s_iinc C dX7_judgeOf_51 rfl (by decide) rfl (by decide) (by omega) (fun z12 tz12 => ?_)
          show WP E ad 54 [some (.ref (ad 39)), some (.ref (ad 42)), some (.int a), some (.int z12)] [] σ
          refine s_goto (tgt := 4) C dX7_judgeOf_54 (by decide) ?_
          exact ih a z12 (by omega) (by omega) (by omega)
        · refine s_aload_n C dX7_judgeOf_34 rfl ?_
          refine s_getr (k := 1) (j := 60) C y42 fw_X7_151 rfl dX7_judgeOf_35 ?_
          refine s_iload_n C dX7_judgeOf_38 rfl ?_
          refine s_lald (r := (σ.2 60 a.toNatClampNeg)) C y60 (by omega) rfl dX7_judgeOf_39 ?_
          refine s_iload_n C dX7_judgeOf_40 rfl ?_
          refine s_i2l C dX7_judgeOf_41 (fun L13 tL13 => ?_)
          refine s_lcmp C dX7_judgeOf_42 (fun z14 tz14 => ?_)
          refine s_if_eq (tgt := 48) C dX7_judgeOf_43 (by decide) (fun q15 => ?_) (fun q15 => ?_)
          · refine s_iinc C dX7_judgeOf_48 rfl (by decide) rfl (by decide) (by omega) (fun z16 tz16 => ?_)
            show WP E ad 51 [some (.ref (ad 39)), some (.ref (ad 42)), some (.int z16), some (.int z)] [] σ
            refine s_iinc C dX7_judgeOf_51 rfl (by decide) rfl (by decide) (by omega) (fun z17 tz17 => ?_)
            show WP E ad 54 [some (.ref (ad 39)), some (.ref (ad 42)), some (.int z16), some (.int z17)] [] σ
            refine s_goto (tgt := 4) C dX7_judgeOf_54 (by decide) ?_
            exact ih z16 z17 (by omega) (by omega) (by omega)
          · refine s_iload_n C dX7_judgeOf_46 rfl ?_
            exact s_iret C X dX7_judgeOf_47 ⟨rfl, trivial⟩
set_option maxRecDepth 100000 in
theorem c_X7_judgeOf_2_2 (l : Launch) (ad : Nat → Nat) (σ : Sg) (hX : IX σ.1) : Mt l yX7_judgeOf cX7_judgeOf 4 (some .int) 0 ad σ [.ref (ad 39), .ref (ad 42)] (oI (fun r τ => τ = σ ∧ True)) := by
  refine Mt_intro (by decide +kernel) (by simp [lg_sl, Value.category]) (fun E C X => ?_)
  show WP E ad 0 [some (.ref (ad 39)), some (.ref (ad 42)), none, none] [] σ
  refine s_iconst C dX7_judgeOf_0 (by decide) (fun z1 tz1 => ?_)
  refine s_istore_n C dX7_judgeOf_1 (by decide) (Nat.le_of_ble_eq_true rfl) rfl ?_
  show WP E ad 2 [some (.ref (ad 39)), some (.ref (ad 42)), some (.int z1), none] [] σ
  refine s_iconst C dX7_judgeOf_2 (by decide) (fun z2 tz2 => ?_)
  refine s_istore_n C dX7_judgeOf_3 (by decide) (Nat.le_of_ble_eq_true rfl) rfl ?_
  show WP E ad 4 [some (.ref (ad 39)), some (.ref (ad 42)), some (.int z1), some (.int z2)] [] σ
  exact L_judge_2_2 l ad E σ hX C X 5000 z1 z2 (by omega) (by omega) (by omega)
