set_option maxRecDepth 100000 in
theorem L_rowBehind (l : Launch) (ad : Nat → Nat) (E : Ev) (σ : Sg) (hX : IX σ.1) (b : Int32) (C : Cx E l (rmk 1) 5 cX2_rowBehind RX2) (X : Rx E ad (some .int) (oI (fun r τ => τ = σ ∧ (0 ≤ r.toInt → GR r))))  : ∀ (n : Nat) (a : Int32) (z : Int32), (GR a) → (-1 ≤ z.toInt ∧ z.toInt < (σ.1 1 0).toInt) → (z.toInt + 1).toNat < n → WP E ad 12 [some (.ref (ad 61)), some (.int b), some (.int a), some (.int z), none] [] σ := by
  intro n
  induction n with
  | zero => intro a z hg h0 hm9; exact absurd hm9 (Nat.not_lt_zero _)
  | succ n ih =>
    intro a z hg h0 hm9
    have hpr := hX.pr
    refine s_iload_n C dX2_rowBehind_12 rfl ?_
    refine s_if_lt (tgt := 65) C dX2_rowBehind_13 (by decide) (fun q1 => ?_) (fun q1 => ?_)
    · refine s_iconst C dX2_rowBehind_65 (by decide) (fun z2 tz2 => ?_)
      exact s_iret C X dX2_rowBehind_66 ⟨rfl, fun _ => by omega⟩
    · refine s_aload_n C dX2_rowBehind_16 rfl ?_
      refine s_getr (k := 0) (j := 1) C y61 fw_X2_36 rfl dX2_rowBehind_17 ?_
      refine s_iload_n C dX2_rowBehind_20 rfl ?_
      refine s_callVI (st := []) C (c_X5_placeOf l ad σ z (by omega) (by omega)) cv_X2_64 y1 rfl rfl rfl ⟨by decide, by decide⟩ (Nat.le_of_ble_eq_true rfl) dX2_rowBehind_21 ?_
      intro r3 τ4 h5
      obtain ⟨eh5, h5⟩ := h5; replace eh5 := eh5.symm; subst eh5
      refine s_istore C dX2_rowBehind_24 (by decide) (Nat.le_of_ble_eq_true rfl) rfl ?_
      show WP E ad 26 [some (.ref (ad 61)), some (.int b), some (.int a), some (.int z), some (.int r3)] [] σ
      refine s_iload_n C dX2_rowBehind_26 rfl ?_
      refine s_iload C dX2_rowBehind_27 rfl ?_
      refine s_callSI (st := []) C (c_X4_at l ad σ a r3 ) cv_X2_67 rfl rfl ⟨by decide, by decide⟩ (Nat.le_of_ble_eq_true rfl) dX2_rowBehind_29 ?_
      intro r6 τ7 h8
      obtain ⟨eh8, h8⟩ := h8; replace eh8 := eh8.symm; subst eh8
      have gh8 : r6.toInt ≤ 5 := by rw [h8.1]; exact GR.at5 hg (by omega)
      skip
      refine s_aload_n C dX2_rowBehind_32 rfl ?_
      refine s_getr (k := 0) (j := 1) C y61 fw_X2_36 rfl dX2_rowBehind_33 ?_
      refine s_getr (k := 4) (j := 3) C y1 fw_X2_71 rfl dX2_rowBehind_36 ?_
      refine s_iload_n C dX2_rowBehind_39 rfl ?_
      refine s_iald (r := (σ.1 3 z.toNatClampNeg)) C y3 (by omega) rfl dX2_rowBehind_40 ?_
      have b9 := hX.ev z.toNatClampNeg
      refine s_icmp_ge (tgt := 52) C dX2_rowBehind_41 (by decide) (fun q10 => ?_) (fun q10 => ?_)
      · refine s_iload_n C dX2_rowBehind_52 rfl ?_
        refine s_iload C dX2_rowBehind_53 rfl ?_
        refine s_callSI (st := []) C (c_X4_without l ad σ a r3 ) cv_X2_77 rfl rfl ⟨by decide, by decide⟩ (Nat.le_of_ble_eq_true rfl) dX2_rowBehind_55 ?_
        intro r11 τ12 h13
        obtain ⟨eh13, h13⟩ := h13; replace eh13 := eh13.symm; subst eh13
        refine s_istore_n C dX2_rowBehind_58 (by decide) (Nat.le_of_ble_eq_true rfl) rfl ?_
        show WP E ad 59 [some (.ref (ad 61)), some (.int b), some (.int r11), some (.int z), some (.int r3)] [] σ
        refine s_iinc C dX2_rowBehind_59 rfl (by decide) rfl (by decide) (by omega) (fun z14 tz14 => ?_)
        show WP E ad 62 [some (.ref (ad 61)), some (.int b), some (.int r11), some (.int z14), some (.int r3)] [] σ
        refine s_goto (tgt := 12) C dX2_rowBehind_62 (by decide) ?_
        refine wp_le (lv' := [some (.ref (ad 61)), some (.int b), some (.int r11), some (.int z14), none]) ⟨rfl, ⟨rfl, ⟨rfl, ⟨rfl, trivial⟩⟩⟩⟩ ?_
        exact ih r11 z14 (by rw [h13]; exact GR.wo hg (by omega)) (by omega) (by omega)
      · refine s_iload_n C dX2_rowBehind_44 rfl ?_
        refine s_iload C dX2_rowBehind_45 rfl ?_
        refine s_callSI (st := [.int a]) C (c_X4_one l ad σ r3 ) cv_X2_74 rfl rfl ⟨by decide, by decide⟩ (Nat.le_of_ble_eq_true rfl) dX2_rowBehind_47 ?_
        intro r15 τ16 h17
        obtain ⟨eh17, h17⟩ := h17; replace eh17 := eh17.symm; subst eh17
        have hone := h17
        refine s_iaddU C dX2_rowBehind_50 (fun z18 tz18 => ?_)
        exact s_iret C X dX2_rowBehind_51 ⟨rfl, fun _ => by rw [tz18, hone]; exact GR.inc hg (by omega) (by rw [← h8.1]; omega)⟩
set_option maxRecDepth 100000 in
theorem c_X2_rowBehind (l : Launch) (ad : Nat → Nat) (σ : Sg) (a : Int32) (hX : IX σ.1) (hg : GR a) : Mt l yX2_rowBehind cX2_rowBehind 5 (some .int) 1 ad σ [.ref (ad 61), .int a] (oI (fun r τ => τ = σ ∧ (0 ≤ r.toInt → GR r))) := by
  have hpr := hX.pr
  refine Mt_intro (by decide +kernel) (by simp [lg_sl, Value.category]) (fun E C X => ?_)
  show WP E ad 0 [some (.ref (ad 61)), some (.int a), none, none, none] [] σ
  refine s_iload_n C dX2_rowBehind_0 rfl ?_
  refine s_istore_n C dX2_rowBehind_1 (by decide) (Nat.le_of_ble_eq_true rfl) rfl ?_
  show WP E ad 2 [some (.ref (ad 61)), some (.int a), some (.int a), none, none] [] σ
  refine s_aload_n C dX2_rowBehind_2 rfl ?_
  refine s_getr (k := 0) (j := 1) C y61 fw_X2_36 rfl dX2_rowBehind_3 ?_
  refine s_get (k := 0) (x := (σ.1 1 0)) C y1 fw_X2_61 rfl rfl dX2_rowBehind_6 ?_
  refine s_iconst C dX2_rowBehind_9 (by decide) (fun z1 tz1 => ?_)
  refine s_isub C dX2_rowBehind_10 (by omega) (fun z2 tz2 => ?_)
  refine s_istore_n C dX2_rowBehind_11 (by decide) (Nat.le_of_ble_eq_true rfl) rfl ?_
  show WP E ad 12 [some (.ref (ad 61)), some (.int a), some (.int a), some (.int z2), none] [] σ
  exact L_rowBehind l ad E σ hX a C X 100 a z2 hg (by omega) (by omega)
set_option maxRecDepth 100000 in
theorem c_X2_numberOf (l : Launch) (ad : Nat → Nat) (σ : Sg) (a : Int32) (hX : IX σ.1) : Mt l yX2_numberOf cX2_numberOf 3 (some .int) 1 ad σ [.ref (ad 61), .int a] (oI (fun r τ => τ = σ ∧ -1 ≤ r.toInt ∧ r.toInt ≤ 1295)) := by
  refine Mt_intro (by decide +kernel) (by simp [lg_sl, Value.category]) (fun E C X => ?_)
  show WP E ad 0 [some (.ref (ad 61)), some (.int a), none] [] σ
  refine s_iload_n C dX2_numberOf_0 rfl ?_
  refine s_callSI (st := []) C (c_X4_slot l ad σ a ) cv_X2_52 rfl rfl ⟨by decide, by decide⟩ (Nat.le_of_ble_eq_true rfl) dX2_numberOf_1 ?_
  intro r1 τ2 h3
  obtain ⟨eh3, h3⟩ := h3; replace eh3 := eh3.symm; subst eh3
  refine s_istore_n C dX2_numberOf_4 (by decide) (Nat.le_of_ble_eq_true rfl) rfl ?_
  show WP E ad 5 [some (.ref (ad 61)), some (.int a), some (.int r1)] [] σ
  refine s_iload_n C dX2_numberOf_5 rfl ?_
  refine s_sipush C dX2_numberOf_6 (by decide) (fun z4 tz4 => ?_)
  refine s_icmp_ge (tgt := 21) C dX2_numberOf_9 (by decide) (fun q5 => ?_) (fun q5 => ?_)
  · refine s_iconst C dX2_numberOf_21 (by decide) (fun z6 tz6 => ?_)
    exact s_iret C X dX2_numberOf_22 ⟨rfl, by omega⟩
  · refine s_aload_n C dX2_numberOf_12 rfl ?_
    refine s_getr (k := 4) (j := 63) C y61 fw_X2_23 rfl dX2_numberOf_13 ?_
    refine s_iload_n C dX2_numberOf_16 rfl ?_
    refine s_iald (r := (σ.1 63 r1.toNatClampNeg)) C y63 (by omega) rfl dX2_numberOf_17 ?_
    have b7 := hX.nu r1.toNatClampNeg
    refine s_goto (tgt := 22) C dX2_numberOf_18 (by decide) ?_
    exact s_iret C X dX2_numberOf_22 ⟨rfl, by omega⟩
set_option maxRecDepth 100000 in
theorem c_X2_successor (l : Launch) (ad : Nat → Nat) (σ : Sg) (i : Int32) (p : Int32) (hX : IX σ.1) (hi : 0 ≤ i.toInt ∧ i.toInt ≤ 1295) (hp : 0 ≤ p.toInt ∧ p.toInt < (σ.1 1 0).toInt) : Mt l yX2_successor cX2_successor 4 (some .int) 1 ad σ [.ref (ad 61), .int i, .int p] (oI (fun r τ => τ = σ ∧ -1 ≤ r.toInt ∧ r.toInt ≤ 1295)) := by
  have hpr := hX.pr
  refine Mt_intro (by decide +kernel) (by simp [lg_sl, Value.category]) (fun E C X => ?_)
  show WP E ad 0 [some (.ref (ad 61)), some (.int i), some (.int p), none] [] σ
  refine s_aload_n C dX2_successor_0 rfl ?_
  refine s_getr (k := 0) (j := 1) C y61 fw_X2_36 rfl dX2_successor_1 ?_
  refine s_iload_n C dX2_successor_4 rfl ?_
  refine s_callVI (st := []) C (c_X5_placeOf l ad σ p (by omega) (by omega)) cv_X2_64 y1 rfl rfl rfl ⟨by decide, by decide⟩ (Nat.le_of_ble_eq_true rfl) dX2_successor_5 ?_
  intro r1 τ2 h3
  obtain ⟨eh3, h3⟩ := h3; replace eh3 := eh3.symm; subst eh3
  refine s_istore_n C dX2_successor_8 (by decide) (Nat.le_of_ble_eq_true rfl) rfl ?_
  show WP E ad 9 [some (.ref (ad 61)), some (.int i), some (.int p), some (.int r1)] [] σ
  refine s_aload_n C dX2_successor_9 rfl ?_
  refine s_getr (k := 3) (j := 62) C y61 fw_X2_19 rfl dX2_successor_10 ?_
  refine s_iload_n C dX2_successor_13 rfl ?_
  refine s_iald (r := (σ.1 62 i.toNatClampNeg)) C y62 (by omega) rfl dX2_successor_14 ?_
  refine s_iload_n C dX2_successor_15 rfl ?_
  refine s_callSI (st := []) C (c_X4_at l ad σ ((σ.1 62 i.toNatClampNeg)) r1 ) cv_X2_67 rfl rfl ⟨by decide, by decide⟩ (Nat.le_of_ble_eq_true rfl) dX2_successor_16 ?_
  intro r4 τ5 h6
  obtain ⟨eh6, h6⟩ := h6; replace eh6 := eh6.symm; subst eh6
  have gh6 : r4.toInt ≤ 5 := by rw [h6.1]; exact GR.at5 (hX.rw _) (by omega)
  skip
  refine s_aload_n C dX2_successor_19 rfl ?_
  refine s_getr (k := 0) (j := 1) C y61 fw_X2_36 rfl dX2_successor_20 ?_
  refine s_getr (k := 4) (j := 3) C y1 fw_X2_71 rfl dX2_successor_23 ?_
  refine s_iload_n C dX2_successor_26 rfl ?_
  refine s_iald (r := (σ.1 3 p.toNatClampNeg)) C y3 (by omega) rfl dX2_successor_27 ?_
  have b7 := hX.ev p.toNatClampNeg
  refine s_icmp_lt (tgt := 33) C dX2_successor_28 (by decide) (fun q8 => ?_) (fun q8 => ?_)
  · refine s_aload_n C dX2_successor_33 rfl ?_
    refine s_getr (k := 4) (j := 63) C y61 fw_X2_23 rfl dX2_successor_34 ?_
    refine s_aload_n C dX2_successor_37 rfl ?_
    refine s_getr (k := 3) (j := 62) C y61 fw_X2_19 rfl dX2_successor_38 ?_
    refine s_iload_n C dX2_successor_41 rfl ?_
    refine s_iald (r := (σ.1 62 i.toNatClampNeg)) C y62 (by omega) rfl dX2_successor_42 ?_
    refine s_iload_n C dX2_successor_43 rfl ?_
    refine s_callSI (st := [.int (σ.1 62 i.toNatClampNeg), .ref (ad 63)]) C (c_X4_one l ad σ r1 ) cv_X2_74 rfl rfl ⟨by decide, by decide⟩ (Nat.le_of_ble_eq_true rfl) dX2_successor_44 ?_
    intro r9 τ10 h11
    obtain ⟨eh11, h11⟩ := h11; replace eh11 := eh11.symm; subst eh11
    have hone := h11
    refine s_iaddU C dX2_successor_47 (fun z12 tz12 => ?_)
    refine s_callSI (st := [.ref (ad 63)]) C (c_X4_slot l ad σ z12 ) cv_X2_52 rfl rfl ⟨by decide, by decide⟩ (Nat.le_of_ble_eq_true rfl) dX2_successor_48 ?_
    intro r13 τ14 h15
    obtain ⟨eh15, h15⟩ := h15; replace eh15 := eh15.symm; subst eh15
    have gsh15 := h15.2 (by rw [tz12, hone]; exact GR.inc (hX.rw _) (by omega) (by rw [← h6.1]; omega))
    refine s_iald (r := (σ.1 63 r13.toNatClampNeg)) C y63 (by omega) rfl dX2_successor_51 ?_
    have b16 := hX.nu r13.toNatClampNeg
    exact s_iret C X dX2_successor_52 ⟨rfl, by omega⟩
  · refine s_iconst C dX2_successor_31 (by decide) (fun z17 tz17 => ?_)
    exact s_iret C X dX2_successor_32 ⟨rfl, by omega⟩
set_option maxRecDepth 100000 in
theorem L_refresh (l : Launch) (ad : Nat → Nat) (E : Ev) (σ : Sg) (C : Cx E l (rmk 3) 3 cX2_refresh RX2) (X : Rx E ad none (oV (fun τ => IX τ.1 ∧ Fr [62, 63] [(61, 1), (61, 2), (61, 5)] σ τ ∧ True)))  : ∀ (n : Nat) (τ : Sg) (a : Int32) (z : Int32), (Fr [62, 63] [(61, 1), (61, 2), (61, 5)] σ τ) → (IX τ.1) → (0 ≤ a.toInt → GR a) → (0 ≤ z.toInt) → ((τ.1 61 2).toInt ≤ z.toInt) → (1296 - z.toInt).toNat < n → WP E ad 35 [some (.ref (ad 61)), some (.int a), some (.int z)] [] τ := by
  intro n
  induction n with
  | zero => intro τ a z kF hXτ hg h0 hs hm9; exact absurd hm9 (Nat.not_lt_zero _)
  | succ n ih =>
    intro τ a z kF hXτ hg h0 hs hm9
    have hsz := hXτ.sz
    refine s_iload_n C dX2_refresh_35 rfl ?_
    refine s_sipush C dX2_refresh_36 (by decide) (fun z1 tz1 => ?_)
    refine s_icmp_ge (tgt := 102) C dX2_refresh_39 (by decide) (fun q2 => ?_) (fun q2 => ?_)
    · exact s_vret C X dX2_refresh_102 ⟨hXτ, kF, trivial⟩
    · refine s_iload_n C dX2_refresh_42 rfl ?_
      refine s_if_lt (tgt := 102) C dX2_refresh_43 (by decide) (fun q3 => ?_) (fun q3 => ?_)
      · exact s_vret C X dX2_refresh_102 ⟨hXτ, kF, trivial⟩
      · refine s_aload_n C dX2_refresh_46 rfl ?_
        refine s_getr (k := 0) (j := 1) C y61 fw_X2_36 rfl dX2_refresh_47 ?_
        refine s_iload_n C dX2_refresh_50 rfl ?_
        refine s_callVI (st := []) C (c_X5_holdsTogether l ad τ a hXτ (hg (by omega))) cv_X2_46 y1 rfl rfl rfl ⟨by decide, by decide⟩ (Nat.le_of_ble_eq_true rfl) dX2_refresh_51 ?_
        intro r4 τ5 h6
        obtain ⟨eh6, h6⟩ := h6; replace eh6 := eh6.symm; subst eh6
        refine s_if_eq (tgt := 90) C dX2_refresh_54 (by decide) (fun q7 => ?_) (fun q7 => ?_)
        · refine s_aload_n C dX2_refresh_90 rfl ?_
          refine s_iload_n C dX2_refresh_91 rfl ?_
          refine s_callVI (st := []) C (c_X2_rowBehind l ad τ a hXτ (hg (by omega))) cv_X2_58 y61 rfl rfl rfl ⟨by decide, by decide⟩ (Nat.le_of_ble_eq_true rfl) dX2_refresh_92 ?_
          intro r8 τ9 h10
          obtain ⟨eh10, h10⟩ := h10; replace eh10 := eh10.symm; subst eh10
          refine s_istore_n C dX2_refresh_95 (by decide) (Nat.le_of_ble_eq_true rfl) rfl ?_
          show WP E ad 96 [some (.ref (ad 61)), some (.int r8), some (.int z)] [] τ
          refine s_iinc C dX2_refresh_96 rfl (by decide) rfl (by decide) (by omega) (fun z11 tz11 => ?_)
          show WP E ad 99 [some (.ref (ad 61)), some (.int r8), some (.int z11)] [] τ
          refine s_goto (tgt := 35) C dX2_refresh_99 (by decide) ?_
          exact ih τ r8 z11 (Fr.tr Fr.rf (Fr.mo kF (by decide) (by decide))) hXτ h10 (by omega) (by show Int32.toInt (τ.1 61 2) ≤ _; omega) (by omega)
        · refine s_aload_n C dX2_refresh_57 rfl ?_
          refine s_getr (k := 3) (j := 62) C y61 fw_X2_19 rfl dX2_refresh_58 ?_
          refine s_aload_n C dX2_refresh_61 rfl ?_
          refine s_get (k := 2) (x := (τ.1 61 2)) C y61 fw_X2_15 rfl rfl dX2_refresh_62 ?_
          refine s_iload_n C dX2_refresh_65 rfl ?_
          refine s_iast C y62 (by omega) dX2_refresh_66 ?_
          refine s_aload_n C dX2_refresh_67 rfl ?_
          refine s_getr (k := 4) (j := 63) C y61 fw_X2_23 rfl dX2_refresh_68 ?_
          refine s_iload_n C dX2_refresh_71 rfl ?_
          refine s_callSI (st := [.ref (ad 63)]) C (c_X4_slot l ad (sV τ 62 ((τ.1 61 2).toNatClampNeg) a) a ) cv_X2_52 rfl rfl ⟨by decide, by decide⟩ (Nat.le_of_ble_eq_true rfl) dX2_refresh_72 ?_
          intro r12 τ13 h14
          obtain ⟨eh14, h14⟩ := h14; replace eh14 := eh14.symm; subst eh14
          have gsh14 := h14.2 (hg (by omega))
          refine s_aload_n C dX2_refresh_75 rfl ?_
          refine s_get (k := 2) (x := (τ.1 61 2)) C y61 fw_X2_15 rfl rfl dX2_refresh_76 ?_
          refine s_iast C y63 (by omega) dX2_refresh_79 ?_
          refine s_aload_n C dX2_refresh_80 rfl ?_
          refine s_dup C dX2_refresh_81 rfl ?_
          refine s_get (k := 2) (x := (τ.1 61 2)) C y61 fw_X2_15 rfl rfl dX2_refresh_82 ?_
          refine s_iconst C dX2_refresh_85 (by decide) (fun z15 tz15 => ?_)
          refine s_iadd C dX2_refresh_86 (by omega) (fun z16 tz16 => ?_)
          refine s_put (k := 2) C y61 fw_X2_15 fp_2_2 rfl dX2_refresh_87 ?_
          refine s_aload_n C dX2_refresh_90 rfl ?_
          refine s_iload_n C dX2_refresh_91 rfl ?_
          refine s_callVI (st := []) C (c_X2_rowBehind l ad (sV (sV (sV τ 62 ((τ.1 61 2).toNatClampNeg) a) 63 r12.toNatClampNeg (τ.1 61 2)) 61 2 z16) a (show IX (sV (sV (sV τ 62 ((τ.1 61 2).toNatClampNeg) a) 63 r12.toNatClampNeg (τ.1 61 2)) 61 2 z16).1 from ⟨hXτ.1, hXτ.2.1, hXτ.2.2.1, hXτ.2.2.2.1, hXτ.2.2.2.2.1, hXτ.2.2.2.2.2.1, hXτ.2.2.2.2.2.2.1, hXτ.2.2.2.2.2.2.2.1, hXτ.2.2.2.2.2.2.2.2.1, hXτ.2.2.2.2.2.2.2.2.2.1, hXτ.2.2.2.2.2.2.2.2.2.2.1, ⟨(by show 0 ≤ Int32.toInt z16 ∧ Int32.toInt z16 ≤ 1296; omega), up_all (P := GR) hXτ.rw _ (hg (by omega)), up_iv hXτ.nu _ (by omega)⟩, hXτ.2.2.2.2.2.2.2.2.2.2.2.2.1, hXτ.2.2.2.2.2.2.2.2.2.2.2.2.2⟩) (hg (by omega))) cv_X2_58 y61 rfl rfl rfl ⟨by decide, by decide⟩ (Nat.le_of_ble_eq_true rfl) dX2_refresh_92 ?_
          intro r17 τ18 h19
          obtain ⟨eh19, h19⟩ := h19; replace eh19 := eh19.symm; subst eh19
          refine s_istore_n C dX2_refresh_95 (by decide) (Nat.le_of_ble_eq_true rfl) rfl ?_
          show WP E ad 96 [some (.ref (ad 61)), some (.int r17), some (.int z)] [] (sV (sV (sV τ 62 ((τ.1 61 2).toNatClampNeg) a) 63 r12.toNatClampNeg (τ.1 61 2)) 61 2 z16)
          refine s_iinc C dX2_refresh_96 rfl (by decide) rfl (by decide) (by omega) (fun z20 tz20 => ?_)
          show WP E ad 99 [some (.ref (ad 61)), some (.int r17), some (.int z20)] [] (sV (sV (sV τ 62 ((τ.1 61 2).toNatClampNeg) a) 63 r12.toNatClampNeg (τ.1 61 2)) 61 2 z16)
          refine s_goto (tgt := 35) C dX2_refresh_99 (by decide) ?_
          exact ih (sV (sV (sV τ 62 ((τ.1 61 2).toNatClampNeg) a) 63 r12.toNatClampNeg (τ.1 61 2)) 61 2 z16) r17 z20 (Fr.sV (Fr.sV (Fr.sV (Fr.tr Fr.rf (Fr.mo kF (by decide) (by decide))) (Or.inl (by decide))) (Or.inl (by decide))) (Or.inr (by decide))) (show IX (sV (sV (sV τ 62 ((τ.1 61 2).toNatClampNeg) a) 63 r12.toNatClampNeg (τ.1 61 2)) 61 2 z16).1 from ⟨hXτ.1, hXτ.2.1, hXτ.2.2.1, hXτ.2.2.2.1, hXτ.2.2.2.2.1, hXτ.2.2.2.2.2.1, hXτ.2.2.2.2.2.2.1, hXτ.2.2.2.2.2.2.2.1, hXτ.2.2.2.2.2.2.2.2.1, hXτ.2.2.2.2.2.2.2.2.2.1, hXτ.2.2.2.2.2.2.2.2.2.2.1, ⟨(by show 0 ≤ Int32.toInt z16 ∧ Int32.toInt z16 ≤ 1296; omega), up_all (P := GR) hXτ.rw _ (hg (by omega)), up_iv hXτ.nu _ (by omega)⟩, hXτ.2.2.2.2.2.2.2.2.2.2.2.2.1, hXτ.2.2.2.2.2.2.2.2.2.2.2.2.2⟩) h19 (by omega) (by show Int32.toInt z16 ≤ _; omega) (by omega)
set_option maxRecDepth 100000 in
theorem c_X2_refresh (l : Launch) (ad : Nat → Nat) (σ : Sg)  (hX : IX σ.1)  : Mt l yX2_refresh cX2_refresh 3 none 3 ad σ [.ref (ad 61)] (oV (fun τ => IX τ.1 ∧ Fr [62, 63] [(61, 1), (61, 2), (61, 5)] σ τ ∧ True)) := by
  refine Mt_intro (by decide +kernel) (by simp [lg_sl, Value.category]) (fun E C X => ?_)
  show WP E ad 0 [some (.ref (ad 61)), none, none] [] σ
  refine s_aload_n C dX2_refresh_0 rfl ?_
  refine s_get (k := 1) (x := (σ.1 61 1)) C y61 fw_X2_9 rfl rfl dX2_refresh_1 ?_
  refine s_if_ne (tgt := 8) C dX2_refresh_4 (by decide) (fun q1 => ?_) (fun q1 => ?_)
  · refine s_aload_n C dX2_refresh_8 rfl ?_
    refine s_iconst C dX2_refresh_9 (by decide) (fun z2 tz2 => ?_)
    refine s_putz (k := 1) C y61 fw_X2_9 fp_2_1 rfl (by omega) dX2_refresh_10 ?_
    refine s_aload_n C dX2_refresh_13 rfl ?_
    refine s_iconst C dX2_refresh_14 (by decide) (fun z3 tz3 => ?_)
    refine s_putz (k := 5) C y61 fw_X2_26 fp_2_5 rfl (by omega) dX2_refresh_15 ?_
    refine s_aload_n C dX2_refresh_18 rfl ?_
    refine s_iconst C dX2_refresh_19 (by decide) (fun z4 tz4 => ?_)
    refine s_put (k := 2) C y61 fw_X2_15 fp_2_2 rfl dX2_refresh_20 ?_
    refine s_aload_n C dX2_refresh_23 rfl ?_
    refine s_getr (k := 4) (j := 63) C y61 fw_X2_23 rfl dX2_refresh_24 ?_
    refine s_iconst C dX2_refresh_27 (by decide) (fun z5 tz5 => ?_)
    refine s_callSV (st := []) C (c_J7_fill_53178 l ad (sV (sV (sV σ 61 1 z2) 61 5 z3) 61 2 z4) 63 1296 0 y63 (by decide) z5) cv_X2_40 rfl rfl ⟨by decide, by decide⟩ (Nat.le_of_ble_eq_true rfl) dX2_refresh_28 ?_
    intro τ7 h8
    subst h8
    refine s_iconst C dX2_refresh_31 (by decide) (fun z9 tz9 => ?_)
    refine s_istore_n C dX2_refresh_32 (by decide) (Nat.le_of_ble_eq_true rfl) rfl ?_
    show WP E ad 33 [some (.ref (ad 61)), some (.int z9), none] [] (sR (sV (sV (sV σ 61 1 z2) 61 5 z3) 61 2 z4) 63 (fun _ => z5))
    refine s_iconst C dX2_refresh_33 (by decide) (fun z10 tz10 => ?_)
    refine s_istore_n C dX2_refresh_34 (by decide) (Nat.le_of_ble_eq_true rfl) rfl ?_
    show WP E ad 35 [some (.ref (ad 61)), some (.int z9), some (.int z10)] [] (sR (sV (sV (sV σ 61 1 z2) 61 5 z3) 61 2 z4) 63 (fun _ => z5))
    exact L_refresh l ad E σ C X 5000 (sR (sV (sV (sV σ 61 1 z2) 61 5 z3) 61 2 z4) 63 (fun _ => z5)) z9 z10 (Fr.sR (Fr.sV (Fr.sV (Fr.sV Fr.rf (Or.inr (by decide))) (Or.inr (by decide))) (Or.inr (by decide))) (by decide)) ⟨hX.1, hX.2.1, hX.2.2.1, hX.2.2.2.1, hX.2.2.2.2.1, hX.2.2.2.2.2.1, hX.2.2.2.2.2.2.1, hX.2.2.2.2.2.2.2.1, hX.2.2.2.2.2.2.2.2.1, hX.2.2.2.2.2.2.2.2.2.1, hX.2.2.2.2.2.2.2.2.2.2.1, ⟨(by show 0 ≤ Int32.toInt z4 ∧ Int32.toInt z4 ≤ 1296; omega), hX.rw, (fun j => by show -1 ≤ Int32.toInt z5 ∧ Int32.toInt z5 ≤ 1295; omega)⟩, hX.2.2.2.2.2.2.2.2.2.2.2.2.1, hX.2.2.2.2.2.2.2.2.2.2.2.2.2⟩ (fun _ => by rw [ceq (n := 0) tz9]; exact GR_0) (by omega) (by show Int32.toInt z4 ≤ _; omega) (by omega)
  · exact s_vret C X dX2_refresh_7 ⟨hX, Fr.rf, trivial⟩
set_option maxRecDepth 100000 in
theorem L_ways106 (l : Launch) (ad : Nat → Nat) (E : Ev) (σ : Sg) (i : Int32) (hi : 0 ≤ i.toInt ∧ i.toInt ≤ 1295) (C : Cx E l (rmk 2) 6 cX2_countWays RX2) (X : Rx E ad none (oV (fun τ => IX τ.1 ∧ Fr [64, 65] [] σ τ ∧ True))) (K : ∀ (υ : Sg) (i2 : Int32), Fr [64, 65] [] σ υ → IX υ.1 → i2.toInt = i.toInt - 1 → WP E ad 83 [some (.ref (ad 61)), some (.int i2), none, none, none, none] [] υ) : ∀ (n : Nat) (τ : Sg) (v : Int64) (z : Int32), (Fr [64, 65] [] σ τ) → (IX τ.1) → (0 ≤ z.toInt) → (4 - z.toInt).toNat < n → WP E ad 106 [some (.ref (ad 61)), some (.int i), some (.long v), none, some (.int z), none] [] τ := by
  intro n
  induction n with
  | zero => intro τ v z kF hXτ h0 hm9; exact absurd hm9 (Nat.not_lt_zero _)
  | succ n ih =>
    intro τ v z kF hXτ h0 hm9
    have hpr := hXτ.pr
    have hsz := hXτ.sz
    refine s_iload C dX2_countWays_106 rfl ?_
    refine s_aload_n C dX2_countWays_108 rfl ?_
    refine s_getr (k := 0) (j := 1) C y61 fw_X2_36 rfl dX2_countWays_109 ?_
    refine s_get (k := 0) (x := (τ.1 1 0)) C y1 fw_X2_61 rfl rfl dX2_countWays_112 ?_
    refine s_icmp_ge (tgt := 152) C dX2_countWays_115 (by decide) (fun q1 => ?_) (fun q1 => ?_)
    · refine s_aload_n C dX2_countWays_152 rfl ?_
      refine s_getr (k := 7) (j := 65) C y61 fw_X2_33 rfl dX2_countWays_153 ?_
      refine s_iload_n C dX2_countWays_156 rfl ?_
      refine s_lload_n C dX2_countWays_157 rfl ?_
      refine s_last C y65 (by omega) dX2_countWays_158 ?_
      refine s_iinc C dX2_countWays_159 rfl (by decide) rfl (by decide) (by omega) (fun z2 tz2 => ?_)
      show WP E ad 162 [some (.ref (ad 61)), some (.int z2), some (.long v), none, some (.int z), none] [] (sL τ 65 i.toNatClampNeg v)
      refine s_goto (tgt := 83) C dX2_countWays_162 (by decide) ?_
      refine wp_le (lv' := [some (.ref (ad 61)), some (.int z2), none, none, none, none]) ⟨rfl, ⟨rfl, trivial⟩⟩ ?_
      exact K (sL τ 65 i.toNatClampNeg v) z2 (Fr.sL (Fr.tr Fr.rf (Fr.mo kF (by decide) (by decide))) (by decide)) hXτ (by omega)
    · refine s_aload_n C dX2_countWays_118 rfl ?_
      refine s_iload_n C dX2_countWays_119 rfl ?_
      refine s_iload C dX2_countWays_120 rfl ?_
      refine s_callVI (st := []) C (c_X2_successor l ad τ i z hXτ (by omega) (by omega)) cv_X2_86 y61 rfl rfl rfl ⟨by decide, by decide⟩ (Nat.le_of_ble_eq_true rfl) dX2_countWays_122 ?_
      intro r3 τ4 h5
      obtain ⟨eh5, h5⟩ := h5; replace eh5 := eh5.symm; subst eh5
      refine s_istore C dX2_countWays_125 (by decide) (Nat.le_of_ble_eq_true rfl) rfl ?_
      show WP E ad 127 [some (.ref (ad 61)), some (.int i), some (.long v), none, some (.int z), some (.int r3)] [] τ
      refine s_lload_n C dX2_countWays_127 rfl ?_
      refine s_iload C dX2_countWays_128 rfl ?_
      refine s_if_lt (tgt := 143) C dX2_countWays_130 (by decide) (fun q6 => ?_) (fun q6 => ?_)
      · refine s_lconst C dX2_countWays_143 rfl (fun L7 tL7 => ?_)
        have tL7 : L7.toInt = 0 := tL7
        refine s_ladd C dX2_countWays_144 (fun L8 => ?_)
        refine s_lstore_n C dX2_countWays_145 (by decide) (Nat.le_of_ble_eq_true rfl) rfl ?_
        show WP E ad 146 [some (.ref (ad 61)), some (.int i), some (.long L8), none, some (.int z), some (.int r3)] [] τ
        refine s_iinc C dX2_countWays_146 rfl (by decide) rfl (by decide) (by omega) (fun z9 tz9 => ?_)
        show WP E ad 149 [some (.ref (ad 61)), some (.int i), some (.long L8), none, some (.int z9), some (.int r3)] [] τ
        refine s_goto (tgt := 106) C dX2_countWays_149 (by decide) ?_
        refine wp_le (lv' := [some (.ref (ad 61)), some (.int i), some (.long L8), none, some (.int z9), none]) ⟨rfl, ⟨rfl, ⟨rfl, ⟨rfl, trivial⟩⟩⟩⟩ ?_
        exact ih τ L8 z9 (Fr.tr Fr.rf (Fr.mo kF (by decide) (by decide))) hXτ (by omega) (by omega)
      · refine s_aload_n C dX2_countWays_133 rfl ?_
        refine s_getr (k := 7) (j := 65) C y61 fw_X2_33 rfl dX2_countWays_134 ?_
        refine s_iload C dX2_countWays_137 rfl ?_
        refine s_lald (r := (τ.2 65 r3.toNatClampNeg)) C y65 (by omega) rfl dX2_countWays_139 ?_
        refine s_goto (tgt := 144) C dX2_countWays_140 (by decide) ?_
        refine s_ladd C dX2_countWays_144 (fun L10 => ?_)
        refine s_lstore_n C dX2_countWays_145 (by decide) (Nat.le_of_ble_eq_true rfl) rfl ?_
        show WP E ad 146 [some (.ref (ad 61)), some (.int i), some (.long L10), none, some (.int z), some (.int r3)] [] τ
        refine s_iinc C dX2_countWays_146 rfl (by decide) rfl (by decide) (by omega) (fun z11 tz11 => ?_)
        show WP E ad 149 [some (.ref (ad 61)), some (.int i), some (.long L10), none, some (.int z11), some (.int r3)] [] τ
        refine s_goto (tgt := 106) C dX2_countWays_149 (by decide) ?_
        refine wp_le (lv' := [some (.ref (ad 61)), some (.int i), some (.long L10), none, some (.int z11), none]) ⟨rfl, ⟨rfl, ⟨rfl, ⟨rfl, trivial⟩⟩⟩⟩ ?_
        exact ih τ L10 z11 (Fr.tr Fr.rf (Fr.mo kF (by decide) (by decide))) hXτ (by omega) (by omega)
set_option maxRecDepth 100000 in
theorem L_ways83 (l : Launch) (ad : Nat → Nat) (E : Ev) (σ : Sg) (C : Cx E l (rmk 2) 6 cX2_countWays RX2) (X : Rx E ad none (oV (fun τ => IX τ.1 ∧ Fr [64, 65] [] σ τ ∧ True)))  : ∀ (n : Nat) (τ : Sg) (z : Int32), (Fr [64, 65] [] σ τ) → (IX τ.1) → (-1 ≤ z.toInt ∧ z.toInt ≤ 1295) → (z.toInt + 1).toNat < n → WP E ad 83 [some (.ref (ad 61)), some (.int z), none, none, none, none] [] τ := by
  intro n
  induction n with
  | zero => intro τ z kF hXτ h0 hm9; exact absurd hm9 (Nat.not_lt_zero _)
  | succ n ih =>
    intro τ z kF hXτ h0 hm9
    have hpr := hXτ.pr
    have hsz := hXτ.sz
    refine s_iload_n C dX2_countWays_83 rfl ?_
    refine s_if_lt (tgt := 165) C dX2_countWays_84 (by decide) (fun q1 => ?_) (fun q1 => ?_)
    · exact s_vret C X dX2_countWays_165 ⟨hXτ, kF, trivial⟩
    · refine s_iload_n C dX2_countWays_87 rfl ?_
      refine s_aload_n C dX2_countWays_88 rfl ?_
      refine s_get (k := 2) (x := (τ.1 61 2)) C y61 fw_X2_15 rfl rfl dX2_countWays_89 ?_
      refine s_iconst C dX2_countWays_92 (by decide) (fun z2 tz2 => ?_)
      refine s_isub C dX2_countWays_93 (by omega) (fun z3 tz3 => ?_)
      refine s_icmp_ne (tgt := 101) C dX2_countWays_94 (by decide) (fun q4 => ?_) (fun q4 => ?_)
      · refine s_lconst C dX2_countWays_101 rfl (fun L5 tL5 => ?_)
        have tL5 : L5.toInt = 0 := tL5
        refine s_lstore_n C dX2_countWays_102 (by decide) (Nat.le_of_ble_eq_true rfl) rfl ?_
        show WP E ad 103 [some (.ref (ad 61)), some (.int z), some (.long L5), none, none, none] [] τ
        refine s_iconst C dX2_countWays_103 (by decide) (fun z6 tz6 => ?_)
        refine s_istore C dX2_countWays_104 (by decide) (Nat.le_of_ble_eq_true rfl) rfl ?_
        show WP E ad 106 [some (.ref (ad 61)), some (.int z), some (.long L5), none, some (.int z6), none] [] τ
        exact L_ways106 l ad E σ z (by omega) C X (fun υ i2 h1 h2 h3 => ih υ i2 h1 h2 (by omega) (by omega)) 100 τ L5 z6 (Fr.tr Fr.rf (Fr.mo kF (by decide) (by decide))) hXτ (by omega) (by omega)
      · refine s_lconst C dX2_countWays_97 rfl (fun L7 tL7 => ?_)
        have tL7 : L7.toInt = 1 := tL7
        refine s_goto (tgt := 102) C dX2_countWays_98 (by decide) ?_
        refine s_lstore_n C dX2_countWays_102 (by decide) (Nat.le_of_ble_eq_true rfl) rfl ?_
        show WP E ad 103 [some (.ref (ad 61)), some (.int z), some (.long L7), none, none, none] [] τ
        refine s_iconst C dX2_countWays_103 (by decide) (fun z8 tz8 => ?_)
        refine s_istore C dX2_countWays_104 (by decide) (Nat.le_of_ble_eq_true rfl) rfl ?_
        show WP E ad 106 [some (.ref (ad 61)), some (.int z), some (.long L7), none, some (.int z8), none] [] τ
        exact L_ways106 l ad E σ z (by omega) C X (fun υ i2 h1 h2 h3 => ih υ i2 h1 h2 (by omega) (by omega)) 100 τ L7 z8 (Fr.tr Fr.rf (Fr.mo kF (by decide) (by decide))) hXτ (by omega) (by omega)
set_option maxRecDepth 100000 in
theorem L_ways27 (l : Launch) (ad : Nat → Nat) (E : Ev) (σ : Sg) (i : Int32) (hi : 0 ≤ i.toInt ∧ i.toInt ≤ 1295) (C : Cx E l (rmk 2) 6 cX2_countWays RX2) (X : Rx E ad none (oV (fun τ => IX τ.1 ∧ Fr [64, 65] [] σ τ ∧ True))) (K : ∀ (υ : Sg) (i2 : Int32), Fr [64, 65] [] σ υ → IX υ.1 → i2.toInt = i.toInt + 1 → WP E ad 17 [some (.ref (ad 61)), some (.int i2), none, none, none, none] [] υ) : ∀ (n : Nat) (τ : Sg) (z : Int32), (Fr [64, 65] [] σ τ) → (IX τ.1) → (0 ≤ z.toInt) → (4 - z.toInt).toNat < n → WP E ad 27 [some (.ref (ad 61)), some (.int i), some (.int z), none, none, none] [] τ := by
  intro n
  induction n with
  | zero => intro τ z kF hXτ h0 hm9; exact absurd hm9 (Nat.not_lt_zero _)
  | succ n ih =>
    intro τ z kF hXτ h0 hm9
    have hpr := hXτ.pr
    have hsz := hXτ.sz
    refine s_iload_n C dX2_countWays_27 rfl ?_
    refine s_aload_n C dX2_countWays_28 rfl ?_
    refine s_getr (k := 0) (j := 1) C y61 fw_X2_36 rfl dX2_countWays_29 ?_
    refine s_get (k := 0) (x := (τ.1 1 0)) C y1 fw_X2_61 rfl rfl dX2_countWays_32 ?_
    refine s_icmp_ge (tgt := 70) C dX2_countWays_35 (by decide) (fun q1 => ?_) (fun q1 => ?_)
    · refine s_iinc C dX2_countWays_70 rfl (by decide) rfl (by decide) (by omega) (fun z2 tz2 => ?_)
      show WP E ad 73 [some (.ref (ad 61)), some (.int z2), some (.int z), none, none, none] [] τ
      refine s_goto (tgt := 17) C dX2_countWays_73 (by decide) ?_
      refine wp_le (lv' := [some (.ref (ad 61)), some (.int z2), none, none, none, none]) ⟨rfl, ⟨rfl, trivial⟩⟩ ?_
      exact K τ z2 (Fr.tr Fr.rf (Fr.mo kF (by decide) (by decide))) hXτ (by omega)
    · refine s_aload_n C dX2_countWays_38 rfl ?_
      refine s_iload_n C dX2_countWays_39 rfl ?_
      refine s_iload_n C dX2_countWays_40 rfl ?_
      refine s_callVI (st := []) C (c_X2_successor l ad τ i z hXτ (by omega) (by omega)) cv_X2_86 y61 rfl rfl rfl ⟨by decide, by decide⟩ (Nat.le_of_ble_eq_true rfl) dX2_countWays_41 ?_
      intro r3 τ4 h5
      obtain ⟨eh5, h5⟩ := h5; replace eh5 := eh5.symm; subst eh5
      refine s_istore_n C dX2_countWays_44 (by decide) (Nat.le_of_ble_eq_true rfl) rfl ?_
      show WP E ad 45 [some (.ref (ad 61)), some (.int i), some (.int z), some (.int r3), none, none] [] τ
      refine s_iload_n C dX2_countWays_45 rfl ?_
      refine s_if_lt (tgt := 64) C dX2_countWays_46 (by decide) (fun q6 => ?_) (fun q6 => ?_)
      · refine s_iinc C dX2_countWays_64 rfl (by decide) rfl (by decide) (by omega) (fun z7 tz7 => ?_)
        show WP E ad 67 [some (.ref (ad 61)), some (.int i), some (.int z7), some (.int r3), none, none] [] τ
        refine s_goto (tgt := 27) C dX2_countWays_67 (by decide) ?_
        refine wp_le (lv' := [some (.ref (ad 61)), some (.int i), some (.int z7), none, none, none]) ⟨rfl, ⟨rfl, ⟨rfl, trivial⟩⟩⟩ ?_
        exact ih τ z7 (Fr.tr Fr.rf (Fr.mo kF (by decide) (by decide))) hXτ (by omega) (by omega)
      · refine s_aload_n C dX2_countWays_49 rfl ?_
        refine s_getr (k := 6) (j := 64) C y61 fw_X2_29 rfl dX2_countWays_50 ?_
        refine s_iload_n C dX2_countWays_53 rfl ?_
        refine s_dup2 C dX2_countWays_54 rfl rfl ?_
        refine s_lald (r := (τ.2 64 r3.toNatClampNeg)) C y64 (by omega) rfl dX2_countWays_55 ?_
        refine s_aload_n C dX2_countWays_56 rfl ?_
        refine s_getr (k := 6) (j := 64) C y61 fw_X2_29 rfl dX2_countWays_57 ?_
        refine s_iload_n C dX2_countWays_60 rfl ?_
        refine s_lald (r := (τ.2 64 i.toNatClampNeg)) C y64 (by omega) rfl dX2_countWays_61 ?_
        refine s_ladd C dX2_countWays_62 (fun L8 => ?_)
        refine s_last C y64 (by omega) dX2_countWays_63 ?_
        refine s_iinc C dX2_countWays_64 rfl (by decide) rfl (by decide) (by omega) (fun z9 tz9 => ?_)
        show WP E ad 67 [some (.ref (ad 61)), some (.int i), some (.int z9), some (.int r3), none, none] [] (sL τ 64 r3.toNatClampNeg L8)
        refine s_goto (tgt := 27) C dX2_countWays_67 (by decide) ?_
        refine wp_le (lv' := [some (.ref (ad 61)), some (.int i), some (.int z9), none, none, none]) ⟨rfl, ⟨rfl, ⟨rfl, trivial⟩⟩⟩ ?_
        exact ih (sL τ 64 r3.toNatClampNeg L8) z9 (Fr.sL (Fr.tr Fr.rf (Fr.mo kF (by decide) (by decide))) (by decide)) hXτ (by omega) (by omega)
set_option maxRecDepth 100000 in
theorem L_ways17 (l : Launch) (ad : Nat → Nat) (E : Ev) (σ : Sg) (C : Cx E l (rmk 2) 6 cX2_countWays RX2) (X : Rx E ad none (oV (fun τ => IX τ.1 ∧ Fr [64, 65] [] σ τ ∧ True)))  : ∀ (n : Nat) (τ : Sg) (z : Int32), (Fr [64, 65] [] σ τ) → (IX τ.1) → (0 ≤ z.toInt) → (1296 - z.toInt).toNat < n → WP E ad 17 [some (.ref (ad 61)), some (.int z), none, none, none, none] [] τ := by
  intro n
  induction n with
  | zero => intro τ z kF hXτ h0 hm9; exact absurd hm9 (Nat.not_lt_zero _)
  | succ n ih =>
    intro τ z kF hXτ h0 hm9
    have hpr := hXτ.pr
    have hsz := hXτ.sz
    refine s_iload_n C dX2_countWays_17 rfl ?_
    refine s_aload_n C dX2_countWays_18 rfl ?_
    refine s_get (k := 2) (x := (τ.1 61 2)) C y61 fw_X2_15 rfl rfl dX2_countWays_19 ?_
    refine s_icmp_ge (tgt := 76) C dX2_countWays_22 (by decide) (fun q1 => ?_) (fun q1 => ?_)
    · refine s_aload_n C dX2_countWays_76 rfl ?_
      refine s_get (k := 2) (x := (τ.1 61 2)) C y61 fw_X2_15 rfl rfl dX2_countWays_77 ?_
      refine s_iconst C dX2_countWays_80 (by decide) (fun z2 tz2 => ?_)
      refine s_isub C dX2_countWays_81 (by omega) (fun z3 tz3 => ?_)
      refine s_istore_n C dX2_countWays_82 (by decide) (Nat.le_of_ble_eq_true rfl) rfl ?_
      show WP E ad 83 [some (.ref (ad 61)), some (.int z3), none, none, none, none] [] τ
      exact L_ways83 l ad E σ C X 5000 τ z3 (Fr.tr Fr.rf (Fr.mo kF (by decide) (by decide))) hXτ (by omega) (by omega)
    · refine s_iconst C dX2_countWays_25 (by decide) (fun z4 tz4 => ?_)
      refine s_istore_n C dX2_countWays_26 (by decide) (Nat.le_of_ble_eq_true rfl) rfl ?_
      show WP E ad 27 [some (.ref (ad 61)), some (.int z), some (.int z4), none, none, none] [] τ
      exact L_ways27 l ad E σ z (by omega) C X (fun υ i2 h1 h2 h3 => ih υ i2 h1 h2 (by omega) (by omega)) 100 τ z4 (Fr.tr Fr.rf (Fr.mo kF (by decide) (by decide))) hXτ (by omega) (by omega)
set_option maxRecDepth 100000 in
theorem c_X2_countWays (l : Launch) (ad : Nat → Nat) (σ : Sg)  (hX : IX σ.1)  : Mt l yX2_countWays cX2_countWays 6 none 2 ad σ [.ref (ad 61)] (oV (fun τ => IX τ.1 ∧ Fr [64, 65] [] σ τ ∧ True)) := by
  refine Mt_intro (by decide +kernel) (by simp [lg_sl, Value.category]) (fun E C X => ?_)
  show WP E ad 0 [some (.ref (ad 61)), none, none, none, none, none] [] σ
  refine s_aload_n C dX2_countWays_0 rfl ?_
  refine s_getr (k := 6) (j := 64) C y61 fw_X2_29 rfl dX2_countWays_1 ?_
  refine s_lconst C dX2_countWays_4 rfl (fun L1 tL1 => ?_)
  have tL1 : L1.toInt = 0 := tL1
  refine s_callSV (st := []) C (c_J7_fill_d0a16 l ad σ 64 1296 0 y64 (by decide) L1) cv_X2_83 rfl rfl ⟨by decide, by decide⟩ (Nat.le_of_ble_eq_true rfl) dX2_countWays_5 ?_
  intro τ3 h4
  subst h4
  refine s_aload_n C dX2_countWays_8 rfl ?_
  refine s_getr (k := 6) (j := 64) C y61 fw_X2_29 rfl dX2_countWays_9 ?_
  refine s_iconst C dX2_countWays_12 (by decide) (fun z5 tz5 => ?_)
  refine s_lconst C dX2_countWays_13 rfl (fun L6 tL6 => ?_)
  have tL6 : L6.toInt = 1 := tL6
  refine s_last C y64 (by omega) dX2_countWays_14 ?_
  refine s_iconst C dX2_countWays_15 (by decide) (fun z7 tz7 => ?_)
  refine s_istore_n C dX2_countWays_16 (by decide) (Nat.le_of_ble_eq_true rfl) rfl ?_
  show WP E ad 17 [some (.ref (ad 61)), some (.int z7), none, none, none, none] [] (sL (sQ σ 64 (fun _ => L1)) 64 z5.toNatClampNeg L6)
  exact L_ways17 l ad E σ C X 5000 (sL (sQ σ 64 (fun _ => L1)) 64 z5.toNatClampNeg L6) z7 (Fr.sL (Fr.sQ Fr.rf (by decide)) (by decide)) hX (by omega) (by omega)
set_option maxRecDepth 100000 in
theorem c_X2_waysBy (l : Launch) (ad : Nat → Nat) (σ : Sg) (i : Int32) (hX : IX σ.1) (hi : 0 ≤ i.toInt ∧ i.toInt ≤ 1295) : Mt l yX2_waysBy cX2_waysBy 2 (some .long) 3 ad σ [.ref (ad 61), .int i] (oL (fun r τ => IX τ.1 ∧ Fr [64, 65] [(61, 5)] σ τ ∧ True)) := by
  refine Mt_intro (by decide +kernel) (by simp [lg_sl, Value.category]) (fun E C X => ?_)
  show WP E ad 0 [some (.ref (ad 61)), some (.int i)] [] σ
  refine s_aload_n C dX2_waysBy_0 rfl ?_
  refine s_get (k := 5) (x := (σ.1 61 5)) C y61 fw_X2_26 rfl rfl dX2_waysBy_1 ?_
  refine s_if_ne (tgt := 16) C dX2_waysBy_4 (by decide) (fun q1 => ?_) (fun q1 => ?_)
  · refine s_aload_n C dX2_waysBy_16 rfl ?_
    refine s_getr (k := 6) (j := 64) C y61 fw_X2_29 rfl dX2_waysBy_17 ?_
    refine s_iload_n C dX2_waysBy_20 rfl ?_
    refine s_lald (r := (σ.2 64 i.toNatClampNeg)) C y64 (by omega) rfl dX2_waysBy_21 ?_
    refine s_aload_n C dX2_waysBy_22 rfl ?_
    refine s_getr (k := 7) (j := 65) C y61 fw_X2_33 rfl dX2_waysBy_23 ?_
    refine s_iload_n C dX2_waysBy_26 rfl ?_
    refine s_lald (r := (σ.2 65 i.toNatClampNeg)) C y65 (by omega) rfl dX2_waysBy_27 ?_
    refine s_lmul C dX2_waysBy_28 (fun L2 => ?_)
    exact s_lret C X dX2_waysBy_29 ⟨hX, Fr.rf, trivial⟩
  · refine s_aload_n C dX2_waysBy_7 rfl ?_
    refine s_callVV (st := []) C (c_X2_countWays l ad σ  hX ) cv_X2_80 y61 rfl rfl rfl ⟨by decide, by decide⟩ (Nat.le_of_ble_eq_true rfl) dX2_waysBy_8 ?_
    intro τ4 h5
    have hXτ4 := h5.1
    have hRτ4 := h5.2.2
    refine s_aload_n C dX2_waysBy_11 rfl ?_
    refine s_iconst C dX2_waysBy_12 (by decide) (fun z6 tz6 => ?_)
    refine s_putz (k := 5) C y61 fw_X2_26 fp_2_5 rfl (by omega) dX2_waysBy_13 ?_
    refine s_aload_n C dX2_waysBy_16 rfl ?_
    refine s_getr (k := 6) (j := 64) C y61 fw_X2_29 rfl dX2_waysBy_17 ?_
    refine s_iload_n C dX2_waysBy_20 rfl ?_
    refine s_lald (r := (τ4.2 64 i.toNatClampNeg)) C y64 (by omega) rfl dX2_waysBy_21 ?_
    refine s_aload_n C dX2_waysBy_22 rfl ?_
    refine s_getr (k := 7) (j := 65) C y61 fw_X2_33 rfl dX2_waysBy_23 ?_
    refine s_iload_n C dX2_waysBy_26 rfl ?_
    refine s_lald (r := (τ4.2 65 i.toNatClampNeg)) C y65 (by omega) rfl dX2_waysBy_27 ?_
    refine s_lmul C dX2_waysBy_28 (fun L7 => ?_)
    exact s_lret C X dX2_waysBy_29 ⟨hXτ4, (Fr.sV (Fr.tr Fr.rf (Fr.mo h5.2.1 (by decide) (by decide))) (Or.inr (by decide))), trivial⟩
set_option maxRecDepth 100000 in
theorem c_X0_copyFrom_31 (l : Launch) (ad : Nat → Nat) (σ : Sg) (hX : IX σ.1) : Mt l yX0_copyFrom cX0_copyFrom 2 none 1 ad σ [.ref (ad 31), .ref (ad 34)] (oV (fun τ => IX τ.1 ∧ Fr [43] [(31, 0), (31, 1)] σ τ ∧ τ.1 31 0 = σ.1 34 0)) := by
  refine Mt_intro (by decide +kernel) (by simp [lg_sl, Value.category]) (fun E C X => ?_)
  show WP E ad 0 [some (.ref (ad 31)), some (.ref (ad 34))] [] σ
  refine s_aload_n C dX0_copyFrom_0 rfl ?_
  refine s_aload_n C dX0_copyFrom_1 rfl ?_
  refine s_get (k := 0) (x := (σ.1 34 0)) C y34 fw_X0_9 rfl rfl dX0_copyFrom_2 ?_
  refine s_putz (k := 0) C y31 fw_X0_9 fp_0_0 rfl hX.I0.1 dX0_copyFrom_5 ?_
  refine s_aload_n C dX0_copyFrom_8 rfl ?_
  refine s_aload_n C dX0_copyFrom_9 rfl ?_
  refine s_get (k := 1) (x := (σ.1 34 1)) C y34 fw_X0_15 rfl rfl dX0_copyFrom_10 ?_
  refine s_put (k := 1) C y31 fw_X0_15 fp_0_1 rfl dX0_copyFrom_13 ?_
  refine s_aload_n C dX0_copyFrom_16 rfl ?_
  refine s_getr (k := 2) (j := 46) C y34 fw_X0_19 rfl dX0_copyFrom_17 ?_
  refine s_iconst C dX0_copyFrom_20 (by decide) (fun z1 tz1 => ?_)
  refine s_aload_n C dX0_copyFrom_21 rfl ?_
  refine s_getr (k := 2) (j := 43) C y31 fw_X0_19 rfl dX0_copyFrom_22 ?_
  refine s_iconst C dX0_copyFrom_25 (by decide) (fun z2 tz2 => ?_)
  refine s_bipush C dX0_copyFrom_26 (by decide) (fun z3 tz3 => ?_)
  refine s_copy (idx := 23) C y46 y43 (by omega) (by omega) (by omega) (mw 951 (by decide +kernel) rfl) (mw 685 (by decide +kernel) rfl) (mw 684 (by decide +kernel) rfl) (mw 74 (by decide +kernel) rfl) (by decide) (Nat.le_of_ble_eq_true rfl) dX0_copyFrom_28 ?_
  show WP E ad 31 [some (.ref (ad 31)), some (.ref (ad 34))] [] (sR (sV (sV σ 31 0 (σ.1 34 0)) 31 1 (σ.1 34 1)) 43 (σ.1 46))
  exact s_vret C X dX0_copyFrom_31 ⟨⟨hX.1, hX.2.1, hX.I0, hX.2.2.2.1, hX.2.2.2.2.1, hX.2.2.2.2.2.1, hX.2.2.2.2.2.2.1, hX.2.2.2.2.2.2.2.1, hX.2.2.2.2.2.2.2.2.1, hX.2.2.2.2.2.2.2.2.2.1, hX.2.2.2.2.2.2.2.2.2.2.1, hX.2.2.2.2.2.2.2.2.2.2.2.1, hX.2.2.2.2.2.2.2.2.2.2.2.2.1, hX.2.2.2.2.2.2.2.2.2.2.2.2.2⟩, (Fr.sR (Fr.sV (Fr.sV Fr.rf (Or.inr (by decide))) (Or.inr (by decide))) (by decide)), rfl⟩
set_option maxRecDepth 100000 in
theorem c_X0_copyFrom_34 (l : Launch) (ad : Nat → Nat) (σ : Sg) (hX : IX σ.1) : Mt l yX0_copyFrom cX0_copyFrom 2 none 1 ad σ [.ref (ad 34), .ref (ad 31)] (oV (fun τ => IX τ.1 ∧ Fr [46] [(34, 0), (34, 1)] σ τ ∧ τ.1 34 0 = σ.1 31 0)) := by
  refine Mt_intro (by decide +kernel) (by simp [lg_sl, Value.category]) (fun E C X => ?_)
  show WP E ad 0 [some (.ref (ad 34)), some (.ref (ad 31))] [] σ
  refine s_aload_n C dX0_copyFrom_0 rfl ?_
  refine s_aload_n C dX0_copyFrom_1 rfl ?_
  refine s_get (k := 0) (x := (σ.1 31 0)) C y31 fw_X0_9 rfl rfl dX0_copyFrom_2 ?_
  refine s_putz (k := 0) C y34 fw_X0_9 fp_0_0 rfl hX.C0.1 dX0_copyFrom_5 ?_
  refine s_aload_n C dX0_copyFrom_8 rfl ?_
  refine s_aload_n C dX0_copyFrom_9 rfl ?_
  refine s_get (k := 1) (x := (σ.1 31 1)) C y31 fw_X0_15 rfl rfl dX0_copyFrom_10 ?_
  refine s_put (k := 1) C y34 fw_X0_15 fp_0_1 rfl dX0_copyFrom_13 ?_
  refine s_aload_n C dX0_copyFrom_16 rfl ?_
  refine s_getr (k := 2) (j := 43) C y31 fw_X0_19 rfl dX0_copyFrom_17 ?_
  refine s_iconst C dX0_copyFrom_20 (by decide) (fun z1 tz1 => ?_)
  refine s_aload_n C dX0_copyFrom_21 rfl ?_
  refine s_getr (k := 2) (j := 46) C y34 fw_X0_19 rfl dX0_copyFrom_22 ?_
  refine s_iconst C dX0_copyFrom_25 (by decide) (fun z2 tz2 => ?_)
  refine s_bipush C dX0_copyFrom_26 (by decide) (fun z3 tz3 => ?_)
  refine s_copy (idx := 23) C y43 y46 (by omega) (by omega) (by omega) (mw 951 (by decide +kernel) rfl) (mw 685 (by decide +kernel) rfl) (mw 684 (by decide +kernel) rfl) (mw 74 (by decide +kernel) rfl) (by decide) (Nat.le_of_ble_eq_true rfl) dX0_copyFrom_28 ?_
  show WP E ad 31 [some (.ref (ad 34)), some (.ref (ad 31))] [] (sR (sV (sV σ 34 0 (σ.1 31 0)) 34 1 (σ.1 31 1)) 46 (σ.1 43))
  exact s_vret C X dX0_copyFrom_31 ⟨⟨hX.1, hX.2.1, hX.2.2.1, hX.2.2.2.1, hX.2.2.2.2.1, hX.C0, hX.2.2.2.2.2.2.1, hX.2.2.2.2.2.2.2.1, hX.2.2.2.2.2.2.2.2.1, hX.2.2.2.2.2.2.2.2.2.1, hX.2.2.2.2.2.2.2.2.2.2.1, hX.2.2.2.2.2.2.2.2.2.2.2.1, hX.2.2.2.2.2.2.2.2.2.2.2.2.1, hX.2.2.2.2.2.2.2.2.2.2.2.2.2⟩, (Fr.sR (Fr.sV (Fr.sV Fr.rf (Or.inr (by decide))) (Or.inr (by decide))) (by decide)), rfl⟩
set_option maxRecDepth 100000 in
theorem c_X0_copyFrom_32 (l : Launch) (ad : Nat → Nat) (σ : Sg) (hX : IX σ.1) : Mt l yX0_copyFrom cX0_copyFrom 2 none 1 ad σ [.ref (ad 32), .ref (ad 35)] (oV (fun τ => IX τ.1 ∧ Fr [44] [(32, 0), (32, 1)] σ τ ∧ τ.1 32 0 = σ.1 35 0)) := by
  refine Mt_intro (by decide +kernel) (by simp [lg_sl, Value.category]) (fun E C X => ?_)
  show WP E ad 0 [some (.ref (ad 32)), some (.ref (ad 35))] [] σ
  refine s_aload_n C dX0_copyFrom_0 rfl ?_
  refine s_aload_n C dX0_copyFrom_1 rfl ?_
  refine s_get (k := 0) (x := (σ.1 35 0)) C y35 fw_X0_9 rfl rfl dX0_copyFrom_2 ?_
  refine s_putz (k := 0) C y32 fw_X0_9 fp_0_0 rfl hX.I1.1 dX0_copyFrom_5 ?_
  refine s_aload_n C dX0_copyFrom_8 rfl ?_
  refine s_aload_n C dX0_copyFrom_9 rfl ?_
  refine s_get (k := 1) (x := (σ.1 35 1)) C y35 fw_X0_15 rfl rfl dX0_copyFrom_10 ?_
  refine s_put (k := 1) C y32 fw_X0_15 fp_0_1 rfl dX0_copyFrom_13 ?_
  refine s_aload_n C dX0_copyFrom_16 rfl ?_
  refine s_getr (k := 2) (j := 47) C y35 fw_X0_19 rfl dX0_copyFrom_17 ?_
  refine s_iconst C dX0_copyFrom_20 (by decide) (fun z1 tz1 => ?_)
  refine s_aload_n C dX0_copyFrom_21 rfl ?_
  refine s_getr (k := 2) (j := 44) C y32 fw_X0_19 rfl dX0_copyFrom_22 ?_
  refine s_iconst C dX0_copyFrom_25 (by decide) (fun z2 tz2 => ?_)
  refine s_bipush C dX0_copyFrom_26 (by decide) (fun z3 tz3 => ?_)
  refine s_copy (idx := 23) C y47 y44 (by omega) (by omega) (by omega) (mw 951 (by decide +kernel) rfl) (mw 685 (by decide +kernel) rfl) (mw 684 (by decide +kernel) rfl) (mw 74 (by decide +kernel) rfl) (by decide) (Nat.le_of_ble_eq_true rfl) dX0_copyFrom_28 ?_
  show WP E ad 31 [some (.ref (ad 32)), some (.ref (ad 35))] [] (sR (sV (sV σ 32 0 (σ.1 35 0)) 32 1 (σ.1 35 1)) 44 (σ.1 47))
  exact s_vret C X dX0_copyFrom_31 ⟨⟨hX.1, hX.2.1, hX.2.2.1, hX.I1, hX.2.2.2.2.1, hX.2.2.2.2.2.1, hX.2.2.2.2.2.2.1, hX.2.2.2.2.2.2.2.1, hX.2.2.2.2.2.2.2.2.1, hX.2.2.2.2.2.2.2.2.2.1, hX.2.2.2.2.2.2.2.2.2.2.1, hX.2.2.2.2.2.2.2.2.2.2.2.1, hX.2.2.2.2.2.2.2.2.2.2.2.2.1, hX.2.2.2.2.2.2.2.2.2.2.2.2.2⟩, (Fr.sR (Fr.sV (Fr.sV Fr.rf (Or.inr (by decide))) (Or.inr (by decide))) (by decide)), rfl⟩
set_option maxRecDepth 100000 in
theorem c_X0_copyFrom_35 (l : Launch) (ad : Nat → Nat) (σ : Sg) (hX : IX σ.1) : Mt l yX0_copyFrom cX0_copyFrom 2 none 1 ad σ [.ref (ad 35), .ref (ad 32)] (oV (fun τ => IX τ.1 ∧ Fr [47] [(35, 0), (35, 1)] σ τ ∧ τ.1 35 0 = σ.1 32 0)) := by
  refine Mt_intro (by decide +kernel) (by simp [lg_sl, Value.category]) (fun E C X => ?_)
  show WP E ad 0 [some (.ref (ad 35)), some (.ref (ad 32))] [] σ
  refine s_aload_n C dX0_copyFrom_0 rfl ?_
  refine s_aload_n C dX0_copyFrom_1 rfl ?_
  refine s_get (k := 0) (x := (σ.1 32 0)) C y32 fw_X0_9 rfl rfl dX0_copyFrom_2 ?_
  refine s_putz (k := 0) C y35 fw_X0_9 fp_0_0 rfl hX.C1.1 dX0_copyFrom_5 ?_
  refine s_aload_n C dX0_copyFrom_8 rfl ?_
  refine s_aload_n C dX0_copyFrom_9 rfl ?_
  refine s_get (k := 1) (x := (σ.1 32 1)) C y32 fw_X0_15 rfl rfl dX0_copyFrom_10 ?_
  refine s_put (k := 1) C y35 fw_X0_15 fp_0_1 rfl dX0_copyFrom_13 ?_
  refine s_aload_n C dX0_copyFrom_16 rfl ?_
  refine s_getr (k := 2) (j := 44) C y32 fw_X0_19 rfl dX0_copyFrom_17 ?_
  refine s_iconst C dX0_copyFrom_20 (by decide) (fun z1 tz1 => ?_)
  refine s_aload_n C dX0_copyFrom_21 rfl ?_
  refine s_getr (k := 2) (j := 47) C y35 fw_X0_19 rfl dX0_copyFrom_22 ?_
  refine s_iconst C dX0_copyFrom_25 (by decide) (fun z2 tz2 => ?_)
  refine s_bipush C dX0_copyFrom_26 (by decide) (fun z3 tz3 => ?_)
  refine s_copy (idx := 23) C y44 y47 (by omega) (by omega) (by omega) (mw 951 (by decide +kernel) rfl) (mw 685 (by decide +kernel) rfl) (mw 684 (by decide +kernel) rfl) (mw 74 (by decide +kernel) rfl) (by decide) (Nat.le_of_ble_eq_true rfl) dX0_copyFrom_28 ?_
  show WP E ad 31 [some (.ref (ad 35)), some (.ref (ad 32))] [] (sR (sV (sV σ 35 0 (σ.1 32 0)) 35 1 (σ.1 32 1)) 47 (σ.1 44))
  exact s_vret C X dX0_copyFrom_31 ⟨⟨hX.1, hX.2.1, hX.2.2.1, hX.2.2.2.1, hX.2.2.2.2.1, hX.2.2.2.2.2.1, hX.C1, hX.2.2.2.2.2.2.2.1, hX.2.2.2.2.2.2.2.2.1, hX.2.2.2.2.2.2.2.2.2.1, hX.2.2.2.2.2.2.2.2.2.2.1, hX.2.2.2.2.2.2.2.2.2.2.2.1, hX.2.2.2.2.2.2.2.2.2.2.2.2.1, hX.2.2.2.2.2.2.2.2.2.2.2.2.2⟩, (Fr.sR (Fr.sV (Fr.sV Fr.rf (Or.inr (by decide))) (Or.inr (by decide))) (by decide)), rfl⟩
set_option maxRecDepth 100000 in
theorem c_X0_copyFrom_33 (l : Launch) (ad : Nat → Nat) (σ : Sg) (hX : IX σ.1) : Mt l yX0_copyFrom cX0_copyFrom 2 none 1 ad σ [.ref (ad 33), .ref (ad 36)] (oV (fun τ => IX τ.1 ∧ Fr [45] [(33, 0), (33, 1)] σ τ ∧ τ.1 33 0 = σ.1 36 0)) := by
  refine Mt_intro (by decide +kernel) (by simp [lg_sl, Value.category]) (fun E C X => ?_)
  show WP E ad 0 [some (.ref (ad 33)), some (.ref (ad 36))] [] σ
  refine s_aload_n C dX0_copyFrom_0 rfl ?_
  refine s_aload_n C dX0_copyFrom_1 rfl ?_
  refine s_get (k := 0) (x := (σ.1 36 0)) C y36 fw_X0_9 rfl rfl dX0_copyFrom_2 ?_
  refine s_putz (k := 0) C y33 fw_X0_9 fp_0_0 rfl hX.I2.1 dX0_copyFrom_5 ?_
  refine s_aload_n C dX0_copyFrom_8 rfl ?_
  refine s_aload_n C dX0_copyFrom_9 rfl ?_
  refine s_get (k := 1) (x := (σ.1 36 1)) C y36 fw_X0_15 rfl rfl dX0_copyFrom_10 ?_
  refine s_put (k := 1) C y33 fw_X0_15 fp_0_1 rfl dX0_copyFrom_13 ?_
  refine s_aload_n C dX0_copyFrom_16 rfl ?_
  refine s_getr (k := 2) (j := 48) C y36 fw_X0_19 rfl dX0_copyFrom_17 ?_
  refine s_iconst C dX0_copyFrom_20 (by decide) (fun z1 tz1 => ?_)
  refine s_aload_n C dX0_copyFrom_21 rfl ?_
  refine s_getr (k := 2) (j := 45) C y33 fw_X0_19 rfl dX0_copyFrom_22 ?_
  refine s_iconst C dX0_copyFrom_25 (by decide) (fun z2 tz2 => ?_)
  refine s_bipush C dX0_copyFrom_26 (by decide) (fun z3 tz3 => ?_)
  refine s_copy (idx := 23) C y48 y45 (by omega) (by omega) (by omega) (mw 951 (by decide +kernel) rfl) (mw 685 (by decide +kernel) rfl) (mw 684 (by decide +kernel) rfl) (mw 74 (by decide +kernel) rfl) (by decide) (Nat.le_of_ble_eq_true rfl) dX0_copyFrom_28 ?_
  show WP E ad 31 [some (.ref (ad 33)), some (.ref (ad 36))] [] (sR (sV (sV σ 33 0 (σ.1 36 0)) 33 1 (σ.1 36 1)) 45 (σ.1 48))
  exact s_vret C X dX0_copyFrom_31 ⟨⟨hX.1, hX.2.1, hX.2.2.1, hX.2.2.2.1, hX.I2, hX.2.2.2.2.2.1, hX.2.2.2.2.2.2.1, hX.2.2.2.2.2.2.2.1, hX.2.2.2.2.2.2.2.2.1, hX.2.2.2.2.2.2.2.2.2.1, hX.2.2.2.2.2.2.2.2.2.2.1, hX.2.2.2.2.2.2.2.2.2.2.2.1, hX.2.2.2.2.2.2.2.2.2.2.2.2.1, hX.2.2.2.2.2.2.2.2.2.2.2.2.2⟩, (Fr.sR (Fr.sV (Fr.sV Fr.rf (Or.inr (by decide))) (Or.inr (by decide))) (by decide)), rfl⟩
set_option maxRecDepth 100000 in
theorem c_X0_copyFrom_36 (l : Launch) (ad : Nat → Nat) (σ : Sg) (hX : IX σ.1) : Mt l yX0_copyFrom cX0_copyFrom 2 none 1 ad σ [.ref (ad 36), .ref (ad 33)] (oV (fun τ => IX τ.1 ∧ Fr [48] [(36, 0), (36, 1)] σ τ ∧ τ.1 36 0 = σ.1 33 0)) := by
  refine Mt_intro (by decide +kernel) (by simp [lg_sl, Value.category]) (fun E C X => ?_)
  show WP E ad 0 [some (.ref (ad 36)), some (.ref (ad 33))] [] σ
  refine s_aload_n C dX0_copyFrom_0 rfl ?_
  refine s_aload_n C dX0_copyFrom_1 rfl ?_
  refine s_get (k := 0) (x := (σ.1 33 0)) C y33 fw_X0_9 rfl rfl dX0_copyFrom_2 ?_
  refine s_putz (k := 0) C y36 fw_X0_9 fp_0_0 rfl hX.C2.1 dX0_copyFrom_5 ?_
  refine s_aload_n C dX0_copyFrom_8 rfl ?_
  refine s_aload_n C dX0_copyFrom_9 rfl ?_
  refine s_get (k := 1) (x := (σ.1 33 1)) C y33 fw_X0_15 rfl rfl dX0_copyFrom_10 ?_
  refine s_put (k := 1) C y36 fw_X0_15 fp_0_1 rfl dX0_copyFrom_13 ?_
  refine s_aload_n C dX0_copyFrom_16 rfl ?_
  refine s_getr (k := 2) (j := 45) C y33 fw_X0_19 rfl dX0_copyFrom_17 ?_
  refine s_iconst C dX0_copyFrom_20 (by decide) (fun z1 tz1 => ?_)
  refine s_aload_n C dX0_copyFrom_21 rfl ?_
  refine s_getr (k := 2) (j := 48) C y36 fw_X0_19 rfl dX0_copyFrom_22 ?_
  refine s_iconst C dX0_copyFrom_25 (by decide) (fun z2 tz2 => ?_)
  refine s_bipush C dX0_copyFrom_26 (by decide) (fun z3 tz3 => ?_)
  refine s_copy (idx := 23) C y45 y48 (by omega) (by omega) (by omega) (mw 951 (by decide +kernel) rfl) (mw 685 (by decide +kernel) rfl) (mw 684 (by decide +kernel) rfl) (mw 74 (by decide +kernel) rfl) (by decide) (Nat.le_of_ble_eq_true rfl) dX0_copyFrom_28 ?_
  show WP E ad 31 [some (.ref (ad 36)), some (.ref (ad 33))] [] (sR (sV (sV σ 36 0 (σ.1 33 0)) 36 1 (σ.1 33 1)) 48 (σ.1 45))
  exact s_vret C X dX0_copyFrom_31 ⟨⟨hX.1, hX.2.1, hX.2.2.1, hX.2.2.2.1, hX.2.2.2.2.1, hX.2.2.2.2.2.1, hX.2.2.2.2.2.2.1, hX.C2, hX.2.2.2.2.2.2.2.2.1, hX.2.2.2.2.2.2.2.2.2.1, hX.2.2.2.2.2.2.2.2.2.2.1, hX.2.2.2.2.2.2.2.2.2.2.2.1, hX.2.2.2.2.2.2.2.2.2.2.2.2.1, hX.2.2.2.2.2.2.2.2.2.2.2.2.2⟩, (Fr.sR (Fr.sV (Fr.sV Fr.rf (Or.inr (by decide))) (Or.inr (by decide))) (by decide)), rfl⟩
set_option maxRecDepth 100000 in
theorem c_X0_combined (l : Launch) (ad : Nat → Nat) (σ : Sg) (o : Int32) (a : Int32) (b : Int32)  : Mt l yX0_combined cX0_combined 3 (some .int) 0 ad σ [.int o, .int a, .int b] (oI (fun r τ => τ = σ ∧ True)) := by
  refine Mt_intro (by decide +kernel) (by simp [lg_sl, Value.category]) (fun E C X => ?_)
  show WP E ad 0 [some (.int o), some (.int a), some (.int b)] [] σ
  refine s_iload_n C dX0_combined_0 rfl ?_
  by_cases hsw : o.toInt < 4 ∨ 9 < o.toInt
  · refine s_tblOut (tgt := 85) C dX0_combined_1 hsw (by decide) ?_
    refine s_iload_n C dX0_combined_85 rfl ?_
    refine s_iload_n C dX0_combined_86 rfl ?_
    refine s_ior C dX0_combined_87 (fun z1 tz1 => ?_)
    exact s_iret C X dX0_combined_88 ⟨rfl, trivial⟩
  by_cases hs0 : o.toInt = 4
  · refine s_tblIn (off := 39) (tgt := 40) C dX0_combined_1 (by omega) (by omega) (by rw [hs0]; rfl) (by decide) ?_
    refine s_iload_n C dX0_combined_40 rfl ?_
    refine s_iload_n C dX0_combined_41 rfl ?_
    refine s_iaddU C dX0_combined_42 (fun z2 tz2 => ?_)
    exact s_iret C X dX0_combined_43 ⟨rfl, trivial⟩
  by_cases hs1 : o.toInt = 5
  · refine s_tblIn (off := 43) (tgt := 44) C dX0_combined_1 (by omega) (by omega) (by rw [hs1]; rfl) (by decide) ?_
    refine s_iload_n C dX0_combined_44 rfl ?_
    refine s_iload_n C dX0_combined_45 rfl ?_
    refine s_isubU C dX0_combined_46 (fun z3 tz3 => ?_)
    exact s_iret C X dX0_combined_47 ⟨rfl, trivial⟩
  by_cases hs2 : o.toInt = 6
  · refine s_tblIn (off := 47) (tgt := 48) C dX0_combined_1 (by omega) (by omega) (by rw [hs2]; rfl) (by decide) ?_
    refine s_iload_n C dX0_combined_48 rfl ?_
    refine s_iload_n C dX0_combined_49 rfl ?_
    refine s_icmp_ne (tgt := 57) C dX0_combined_50 (by decide) (fun q4 => ?_) (fun q4 => ?_)
    · refine s_iconst C dX0_combined_57 (by decide) (fun z5 tz5 => ?_)
      exact s_iret C X dX0_combined_58 ⟨rfl, trivial⟩
    · refine s_iconst C dX0_combined_53 (by decide) (fun z6 tz6 => ?_)
      refine s_goto (tgt := 58) C dX0_combined_54 (by decide) ?_
      exact s_iret C X dX0_combined_58 ⟨rfl, trivial⟩
  by_cases hs3 : o.toInt = 7
  · refine s_tblIn (off := 58) (tgt := 59) C dX0_combined_1 (by omega) (by omega) (by rw [hs3]; rfl) (by decide) ?_
    refine s_iload_n C dX0_combined_59 rfl ?_
    refine s_iload_n C dX0_combined_60 rfl ?_
    refine s_icmp_ge (tgt := 68) C dX0_combined_61 (by decide) (fun q7 => ?_) (fun q7 => ?_)
    · refine s_iconst C dX0_combined_68 (by decide) (fun z8 tz8 => ?_)
      exact s_iret C X dX0_combined_69 ⟨rfl, trivial⟩
    · refine s_iconst C dX0_combined_64 (by decide) (fun z9 tz9 => ?_)
      refine s_goto (tgt := 69) C dX0_combined_65 (by decide) ?_
      exact s_iret C X dX0_combined_69 ⟨rfl, trivial⟩
  by_cases hs4 : o.toInt = 8
  · refine s_tblIn (off := 69) (tgt := 70) C dX0_combined_1 (by omega) (by omega) (by rw [hs4]; rfl) (by decide) ?_
    refine s_iload_n C dX0_combined_70 rfl ?_
    refine s_iload_n C dX0_combined_71 rfl ?_
    refine s_icmp_le (tgt := 79) C dX0_combined_72 (by decide) (fun q10 => ?_) (fun q10 => ?_)
    · refine s_iconst C dX0_combined_79 (by decide) (fun z11 tz11 => ?_)
      exact s_iret C X dX0_combined_80 ⟨rfl, trivial⟩
    · refine s_iconst C dX0_combined_75 (by decide) (fun z12 tz12 => ?_)
      refine s_goto (tgt := 80) C dX0_combined_76 (by decide) ?_
      exact s_iret C X dX0_combined_80 ⟨rfl, trivial⟩
  by_cases hs5 : o.toInt = 9
  · refine s_tblIn (off := 80) (tgt := 81) C dX0_combined_1 (by omega) (by omega) (by rw [hs5]; rfl) (by decide) ?_
    refine s_iload_n C dX0_combined_81 rfl ?_
    refine s_iload_n C dX0_combined_82 rfl ?_
    refine s_iand C dX0_combined_83 (fun z13 tz13 => ?_)
    exact s_iret C X dX0_combined_84 ⟨rfl, trivial⟩
  omega
set_option maxRecDepth 100000 in
theorem c_X0_unit (l : Launch) (ad : Nat → Nat) (σ : Sg) (a o n : Int32) (hpr : 1 ≤ (σ.1 1 0).toInt ∧ (σ.1 1 0).toInt ≤ 4) (hg : GR a) (hn : (o.toInt = 1 ∨ o.toInt = 2) → 0 ≤ n.toInt ∧ n.toInt ≤ 3) : Mt l yX0_unit cX0_unit 4 (some .int) 2 ad σ [.ref (ad 1), .int a, .int o, .int n] (oI (fun r τ => τ = σ ∧ True)) := by
  refine Mt_intro (by decide +kernel) (by simp [lg_sl, Value.category]) (fun E C X => ?_)
  show WP E ad 0 [some (.ref (ad 1)), some (.int a), some (.int o), some (.int n)] [] σ
  refine s_iload_n C dX0_unit_0 rfl ?_
  by_cases hs0 : o.toInt = 1
  · refine s_lookup (off := 27) (tgt := 28) C dX0_unit_1 (by decide) (by rw [hs0]; rfl) (by decide) ?_
    refine s_aload_n C dX0_unit_28 rfl ?_
    refine s_iload_n C dX0_unit_29 rfl ?_
    refine s_iload_n C dX0_unit_30 rfl ?_
    refine s_callVI (st := []) C (c_X5_valueIn l ad σ a n (by omega) hg (by omega)) cv_X0_48 y1 rfl rfl rfl ⟨by decide, by decide⟩ (Nat.le_of_ble_eq_true rfl) dX0_unit_31 ?_
    intro r1 τ2 h3
    obtain ⟨eh3, h3⟩ := h3; replace eh3 := eh3.symm; subst eh3
    exact s_iret C X dX0_unit_34 ⟨rfl, trivial⟩
  by_cases hs1 : o.toInt = 2
  · refine s_lookup (off := 34) (tgt := 35) C dX0_unit_1 (by decide) (by rw [hs1]; rfl) (by decide) ?_
    refine s_iload_n C dX0_unit_35 rfl ?_
    refine s_aload_n C dX0_unit_36 rfl ?_
    refine s_iload_n C dX0_unit_37 rfl ?_
    refine s_callVI (st := [.int a]) C (c_X5_placeOf l ad σ n (by omega) (by omega)) cv_X0_52 y1 rfl rfl rfl ⟨by decide, by decide⟩ (Nat.le_of_ble_eq_true rfl) dX0_unit_38 ?_
    intro r4 τ5 h6
    obtain ⟨eh6, h6⟩ := h6; replace eh6 := eh6.symm; subst eh6
    refine s_callSI (st := []) C (c_X4_at l ad σ a r4 ) cv_X0_55 rfl rfl ⟨by decide, by decide⟩ (Nat.le_of_ble_eq_true rfl) dX0_unit_41 ?_
    intro r7 τ8 h9
    obtain ⟨eh9, h9⟩ := h9; replace eh9 := eh9.symm; subst eh9
    have gh9 : r7.toInt ≤ 5 := by rw [h9.1]; exact GR.at5 hg (by omega)
    exact s_iret C X dX0_unit_44 ⟨rfl, trivial⟩
  refine s_lookup (off := 44) (tgt := 45) C dX0_unit_1 (by decide) (by show (if _ then _ else _) = _; rw [if_neg (fun q => hs0 q.symm)]; show (if _ then _ else _) = _;  rw [if_neg (fun q => hs1 q.symm)]; rfl) (by decide) ?_
  refine s_iload_n C dX0_unit_45 rfl ?_
  exact s_iret C X dX0_unit_46 ⟨rfl, trivial⟩
set_option maxRecDepth 100000 in
theorem L_isMet_0 (l : Launch) (ad : Nat → Nat) (E : Ev) (σ : Sg) (a : Int32) (hg : GR a) (C : Cx E l (rmk 3) 8 cX0_isMet RX0) (X : Rx E ad (some .boolean) (oI (fun r τ => Fr [51] [] σ τ ∧ (r.toInt = 0 ∨ r.toInt = 1))))  : ∀ (n : Nat) (τ : Sg) (t : Int32) (u : Int32) (z : Int32), (Fr [51] [] σ τ) → (IX τ.1) → (0 ≤ t.toInt ∧ t.toInt ≤ 60) → (0 ≤ z.toInt) → (60 - z.toInt).toNat < n → WP E ad 9 [some (.ref (ad 31)), some (.ref (ad 1)), some (.int a), some (.ref (ad 51)), some (.int t), some (.int u), some (.int z), none] [] τ := by
  intro n
  induction n with
  | zero => intro τ t u z kF hXτ ht h0 hm9; exact absurd hm9 (Nat.not_lt_zero _)
  | succ n ih =>
    intro τ t u z kF hXτ ht h0 hm9
    have hsz := hXτ.C0.2.1
    have hpr := hXτ.pr
    refine s_iload C dX0_isMet_9 rfl ?_
    refine s_aload_n C dX0_isMet_11 rfl ?_
    refine s_get (k := 1) (x := (τ.1 31 1)) C y31 fw_X0_15 rfl rfl dX0_isMet_12 ?_
    refine s_icmp_ge (tgt := 167) C dX0_isMet_15 (by decide) (fun q1 => ?_) (fun q1 => ?_)
    · refine s_iload C dX0_isMet_167 rfl ?_
      refine s_if_le (tgt := 183) C dX0_isMet_169 (by decide) (fun q2 => ?_) (fun q2 => ?_)
      · refine s_iconst C dX0_isMet_183 (by decide) (fun z3 tz3 => ?_)
        exact s_zret C (by omega) X dX0_isMet_184 ⟨kF, by omega⟩
      · refine s_aload_n C dX0_isMet_172 rfl ?_
        refine s_iconst C dX0_isMet_173 (by decide) (fun z4 tz4 => ?_)
        refine s_iald (r := (τ.1 51 z4.toNatClampNeg)) C y51 (by omega) rfl dX0_isMet_174 ?_
        refine s_iconst C dX0_isMet_175 (by decide) (fun z5 tz5 => ?_)
        refine s_icmp_ne (tgt := 183) C dX0_isMet_176 (by decide) (fun q6 => ?_) (fun q6 => ?_)
        · refine s_iconst C dX0_isMet_183 (by decide) (fun z7 tz7 => ?_)
          exact s_zret C (by omega) X dX0_isMet_184 ⟨kF, by omega⟩
        · refine s_iconst C dX0_isMet_179 (by decide) (fun z8 tz8 => ?_)
          refine s_goto (tgt := 184) C dX0_isMet_180 (by decide) ?_
          exact s_zret C (by omega) X dX0_isMet_184 ⟨kF, by omega⟩
    · refine s_aload_n C dX0_isMet_18 rfl ?_
      refine s_getr (k := 2) (j := 43) C y31 fw_X0_19 rfl dX0_isMet_19 ?_
      refine s_iload C dX0_isMet_22 rfl ?_
      refine s_iald (r := (τ.1 43 z.toNatClampNeg)) C y43 (by omega) rfl dX0_isMet_24 ?_
      refine s_bipush C dX0_isMet_25 (by decide) (fun z9 tz9 => ?_)
      skip
      refine s_iand C dX0_isMet_27 (fun z10 tz10 => ?_)
      refine s_istore C dX0_isMet_28 (by decide) (Nat.le_of_ble_eq_true rfl) rfl ?_
      show WP E ad 30 [some (.ref (ad 31)), some (.ref (ad 1)), some (.int a), some (.ref (ad 51)), some (.int t), some (.int u), some (.int z), some (.int z10)] [] τ
      refine s_iload C dX0_isMet_30 rfl ?_
      refine s_iconst C dX0_isMet_32 (by decide) (fun z11 tz11 => ?_)
      refine s_icmp_ne (tgt := 51) C dX0_isMet_33 (by decide) (fun q12 => ?_) (fun q12 => ?_)
      · refine s_iload C dX0_isMet_51 rfl ?_
        refine s_iconst C dX0_isMet_53 (by decide) (fun z13 tz13 => ?_)
        refine s_icmp_gt (tgt := 101) C dX0_isMet_54 (by decide) (fun q14 => ?_) (fun q14 => ?_)
        · refine s_iload C dX0_isMet_101 rfl ?_
          refine s_bipush C dX0_isMet_103 (by decide) (fun z15 tz15 => ?_)
          refine s_icmp_ne (tgt := 131) C dX0_isMet_105 (by decide) (fun q16 => ?_) (fun q16 => ?_)
          · refine s_iload C dX0_isMet_131 rfl ?_
            refine s_iconst C dX0_isMet_133 (by decide) (fun z17 tz17 => ?_)
            refine s_icmp_lt (tgt := 161) C dX0_isMet_134 (by decide) (fun q18 => ?_) (fun q18 => ?_)
            · refine s_iinc C dX0_isMet_161 rfl (by decide) rfl (by decide) (by omega) (fun z19 tz19 => ?_)
              show WP E ad 164 [some (.ref (ad 31)), some (.ref (ad 1)), some (.int a), some (.ref (ad 51)), some (.int t), some (.int u), some (.int z19), some (.int z10)] [] τ
              refine s_goto (tgt := 9) C dX0_isMet_164 (by decide) ?_
              refine wp_le (lv' := [some (.ref (ad 31)), some (.ref (ad 1)), some (.int a), some (.ref (ad 51)), some (.int t), some (.int u), some (.int z19), none]) ⟨rfl, ⟨rfl, ⟨rfl, ⟨rfl, ⟨rfl, ⟨rfl, ⟨rfl, trivial⟩⟩⟩⟩⟩⟩⟩ ?_
              exact ih τ t u z19 (Fr.tr Fr.rf (Fr.mo kF (by decide) (by decide))) hXτ (by omega) (by omega) (by omega)
            · refine s_iinc C dX0_isMet_137 rfl (by decide) rfl (by decide) (by omega) (fun z20 tz20 => ?_)
              show WP E ad 140 [some (.ref (ad 31)), some (.ref (ad 1)), some (.int a), some (.ref (ad 51)), some (.int z20), some (.int u), some (.int z), some (.int z10)] [] τ
              refine s_aload_n C dX0_isMet_140 rfl ?_
              refine s_iload C dX0_isMet_141 rfl ?_
              refine s_iconst C dX0_isMet_143 (by decide) (fun z21 tz21 => ?_)
              refine s_isub C dX0_isMet_144 (by omega) (fun z22 tz22 => ?_)
              refine s_iload C dX0_isMet_145 rfl ?_
              refine s_aload_n C dX0_isMet_147 rfl ?_
              refine s_iload C dX0_isMet_148 rfl ?_
              refine s_iconst C dX0_isMet_150 (by decide) (fun z23 tz23 => ?_)
              refine s_isub C dX0_isMet_151 (by omega) (fun z24 tz24 => ?_)
              refine s_iald (r := (τ.1 51 z24.toNatClampNeg)) C y51 (by omega) rfl dX0_isMet_152 ?_
              refine s_aload_n C dX0_isMet_153 rfl ?_
              refine s_iload C dX0_isMet_154 rfl ?_
              refine s_iald (r := (τ.1 51 z20.toNatClampNeg)) C y51 (by omega) rfl dX0_isMet_156 ?_
              refine s_callSI (st := [.int z22, .ref (ad 51)]) C (c_X0_combined l ad τ z10 ((τ.1 51 z24.toNatClampNeg)) ((τ.1 51 z20.toNatClampNeg)) ) cv_X0_44 rfl rfl ⟨by decide, by decide⟩ (Nat.le_of_ble_eq_true rfl) dX0_isMet_157 ?_
              intro r25 τ26 h27
              obtain ⟨eh27, h27⟩ := h27; replace eh27 := eh27.symm; subst eh27
              refine s_iast C y51 (by omega) dX0_isMet_160 ?_
              refine s_iinc C dX0_isMet_161 rfl (by decide) rfl (by decide) (by omega) (fun z28 tz28 => ?_)
              show WP E ad 164 [some (.ref (ad 31)), some (.ref (ad 1)), some (.int a), some (.ref (ad 51)), some (.int z20), some (.int u), some (.int z28), some (.int z10)] [] (sV τ 51 z22.toNatClampNeg r25)
              refine s_goto (tgt := 9) C dX0_isMet_164 (by decide) ?_
              refine wp_le (lv' := [some (.ref (ad 31)), some (.ref (ad 1)), some (.int a), some (.ref (ad 51)), some (.int z20), some (.int u), some (.int z28), none]) ⟨rfl, ⟨rfl, ⟨rfl, ⟨rfl, ⟨rfl, ⟨rfl, ⟨rfl, trivial⟩⟩⟩⟩⟩⟩⟩ ?_
              exact ih (sV τ 51 z22.toNatClampNeg r25) z20 u z28 (Fr.sV (Fr.tr Fr.rf (Fr.mo kF (by decide) (by decide))) (Or.inl (by decide))) hXτ (by omega) (by omega) (by omega)
          · refine s_iload C dX0_isMet_108 rfl ?_
            refine s_iconst C dX0_isMet_110 (by decide) (fun z29 tz29 => ?_)
            refine s_icmp_lt (tgt := 131) C dX0_isMet_111 (by decide) (fun q30 => ?_) (fun q30 => ?_)
            · refine s_iload C dX0_isMet_131 rfl ?_
              refine s_iconst C dX0_isMet_133 (by decide) (fun z31 tz31 => ?_)
              refine s_icmp_lt (tgt := 161) C dX0_isMet_134 (by decide) (fun q32 => ?_) (fun q32 => ?_)
              · refine s_iinc C dX0_isMet_161 rfl (by decide) rfl (by decide) (by omega) (fun z33 tz33 => ?_)
                show WP E ad 164 [some (.ref (ad 31)), some (.ref (ad 1)), some (.int a), some (.ref (ad 51)), some (.int t), some (.int u), some (.int z33), some (.int z10)] [] τ
                refine s_goto (tgt := 9) C dX0_isMet_164 (by decide) ?_
                refine wp_le (lv' := [some (.ref (ad 31)), some (.ref (ad 1)), some (.int a), some (.ref (ad 51)), some (.int t), some (.int u), some (.int z33), none]) ⟨rfl, ⟨rfl, ⟨rfl, ⟨rfl, ⟨rfl, ⟨rfl, ⟨rfl, trivial⟩⟩⟩⟩⟩⟩⟩ ?_
                exact ih τ t u z33 (Fr.tr Fr.rf (Fr.mo kF (by decide) (by decide))) hXτ (by omega) (by omega) (by omega)
              · refine s_iinc C dX0_isMet_137 rfl (by decide) rfl (by decide) (by omega) (fun z34 tz34 => ?_)
                show WP E ad 140 [some (.ref (ad 31)), some (.ref (ad 1)), some (.int a), some (.ref (ad 51)), some (.int z34), some (.int u), some (.int z), some (.int z10)] [] τ
                refine s_aload_n C dX0_isMet_140 rfl ?_
                refine s_iload C dX0_isMet_141 rfl ?_
                refine s_iconst C dX0_isMet_143 (by decide) (fun z35 tz35 => ?_)
                refine s_isub C dX0_isMet_144 (by omega) (fun z36 tz36 => ?_)
                refine s_iload C dX0_isMet_145 rfl ?_
                refine s_aload_n C dX0_isMet_147 rfl ?_
                refine s_iload C dX0_isMet_148 rfl ?_
                refine s_iconst C dX0_isMet_150 (by decide) (fun z37 tz37 => ?_)
                refine s_isub C dX0_isMet_151 (by omega) (fun z38 tz38 => ?_)
                refine s_iald (r := (τ.1 51 z38.toNatClampNeg)) C y51 (by omega) rfl dX0_isMet_152 ?_
                refine s_aload_n C dX0_isMet_153 rfl ?_
                refine s_iload C dX0_isMet_154 rfl ?_
                refine s_iald (r := (τ.1 51 z34.toNatClampNeg)) C y51 (by omega) rfl dX0_isMet_156 ?_
                refine s_callSI (st := [.int z36, .ref (ad 51)]) C (c_X0_combined l ad τ z10 ((τ.1 51 z38.toNatClampNeg)) ((τ.1 51 z34.toNatClampNeg)) ) cv_X0_44 rfl rfl ⟨by decide, by decide⟩ (Nat.le_of_ble_eq_true rfl) dX0_isMet_157 ?_
                intro r39 τ40 h41
                obtain ⟨eh41, h41⟩ := h41; replace eh41 := eh41.symm; subst eh41
                refine s_iast C y51 (by omega) dX0_isMet_160 ?_
                refine s_iinc C dX0_isMet_161 rfl (by decide) rfl (by decide) (by omega) (fun z42 tz42 => ?_)
                show WP E ad 164 [some (.ref (ad 31)), some (.ref (ad 1)), some (.int a), some (.ref (ad 51)), some (.int z34), some (.int u), some (.int z42), some (.int z10)] [] (sV τ 51 z36.toNatClampNeg r39)
                refine s_goto (tgt := 9) C dX0_isMet_164 (by decide) ?_
                refine wp_le (lv' := [some (.ref (ad 31)), some (.ref (ad 1)), some (.int a), some (.ref (ad 51)), some (.int z34), some (.int u), some (.int z42), none]) ⟨rfl, ⟨rfl, ⟨rfl, ⟨rfl, ⟨rfl, ⟨rfl, ⟨rfl, trivial⟩⟩⟩⟩⟩⟩⟩ ?_
                exact ih (sV τ 51 z36.toNatClampNeg r39) z34 u z42 (Fr.sV (Fr.tr Fr.rf (Fr.mo kF (by decide) (by decide))) (Or.inl (by decide))) hXτ (by omega) (by omega) (by omega)
            · refine s_aload_n C dX0_isMet_114 rfl ?_
              refine s_iload C dX0_isMet_115 rfl ?_
              refine s_iconst C dX0_isMet_117 (by decide) (fun z43 tz43 => ?_)
              refine s_isub C dX0_isMet_118 (by omega) (fun z44 tz44 => ?_)
              refine s_iconst C dX0_isMet_119 (by decide) (fun z45 tz45 => ?_)
              refine s_aload_n C dX0_isMet_120 rfl ?_
              refine s_iload C dX0_isMet_121 rfl ?_
              refine s_iconst C dX0_isMet_123 (by decide) (fun z46 tz46 => ?_)
              refine s_isub C dX0_isMet_124 (by omega) (fun z47 tz47 => ?_)
              refine s_iald (r := (τ.1 51 z47.toNatClampNeg)) C y51 (by omega) rfl dX0_isMet_125 ?_
              refine s_isubU C dX0_isMet_126 (fun z48 tz48 => ?_)
              refine s_iast C y51 (by omega) dX0_isMet_127 ?_
              refine s_goto (tgt := 161) C dX0_isMet_128 (by decide) ?_
              refine s_iinc C dX0_isMet_161 rfl (by decide) rfl (by decide) (by omega) (fun z49 tz49 => ?_)
              show WP E ad 164 [some (.ref (ad 31)), some (.ref (ad 1)), some (.int a), some (.ref (ad 51)), some (.int t), some (.int u), some (.int z49), some (.int z10)] [] (sV τ 51 z44.toNatClampNeg z48)
              refine s_goto (tgt := 9) C dX0_isMet_164 (by decide) ?_
              refine wp_le (lv' := [some (.ref (ad 31)), some (.ref (ad 1)), some (.int a), some (.ref (ad 51)), some (.int t), some (.int u), some (.int z49), none]) ⟨rfl, ⟨rfl, ⟨rfl, ⟨rfl, ⟨rfl, ⟨rfl, ⟨rfl, trivial⟩⟩⟩⟩⟩⟩⟩ ?_
              exact ih (sV τ 51 z44.toNatClampNeg z48) t u z49 (Fr.sV (Fr.tr Fr.rf (Fr.mo kF (by decide) (by decide))) (Or.inl (by decide))) hXτ (by omega) (by omega) (by omega)
        · refine s_iload C dX0_isMet_57 rfl ?_
          refine s_aload_n C dX0_isMet_59 rfl ?_
          refine s_alen0 C y51 (by omega) dX0_isMet_60 (fun z50 tz50 => ?_)
          refine s_icmp_ge (tgt := 101) C dX0_isMet_61 (by decide) (fun q51 => ?_) (fun q51 => ?_)
          · refine s_iload C dX0_isMet_101 rfl ?_
            refine s_bipush C dX0_isMet_103 (by decide) (fun z52 tz52 => ?_)
            refine s_icmp_ne (tgt := 131) C dX0_isMet_105 (by decide) (fun q53 => ?_) (fun q53 => ?_)
            · refine s_iload C dX0_isMet_131 rfl ?_
              refine s_iconst C dX0_isMet_133 (by decide) (fun z54 tz54 => ?_)
              refine s_icmp_lt (tgt := 161) C dX0_isMet_134 (by decide) (fun q55 => ?_) (fun q55 => ?_)
              · refine s_iinc C dX0_isMet_161 rfl (by decide) rfl (by decide) (by omega) (fun z56 tz56 => ?_)
                show WP E ad 164 [some (.ref (ad 31)), some (.ref (ad 1)), some (.int a), some (.ref (ad 51)), some (.int t), some (.int u), some (.int z56), some (.int z10)] [] τ
                refine s_goto (tgt := 9) C dX0_isMet_164 (by decide) ?_
                refine wp_le (lv' := [some (.ref (ad 31)), some (.ref (ad 1)), some (.int a), some (.ref (ad 51)), some (.int t), some (.int u), some (.int z56), none]) ⟨rfl, ⟨rfl, ⟨rfl, ⟨rfl, ⟨rfl, ⟨rfl, ⟨rfl, trivial⟩⟩⟩⟩⟩⟩⟩ ?_
                exact ih τ t u z56 (Fr.tr Fr.rf (Fr.mo kF (by decide) (by decide))) hXτ (by omega) (by omega) (by omega)
              · refine s_iinc C dX0_isMet_137 rfl (by decide) rfl (by decide) (by omega) (fun z57 tz57 => ?_)
                show WP E ad 140 [some (.ref (ad 31)), some (.ref (ad 1)), some (.int a), some (.ref (ad 51)), some (.int z57), some (.int u), some (.int z), some (.int z10)] [] τ
                refine s_aload_n C dX0_isMet_140 rfl ?_
                refine s_iload C dX0_isMet_141 rfl ?_
                refine s_iconst C dX0_isMet_143 (by decide) (fun z58 tz58 => ?_)
                refine s_isub C dX0_isMet_144 (by omega) (fun z59 tz59 => ?_)
                refine s_iload C dX0_isMet_145 rfl ?_
                refine s_aload_n C dX0_isMet_147 rfl ?_
                refine s_iload C dX0_isMet_148 rfl ?_
                refine s_iconst C dX0_isMet_150 (by decide) (fun z60 tz60 => ?_)
                refine s_isub C dX0_isMet_151 (by omega) (fun z61 tz61 => ?_)
                refine s_iald (r := (τ.1 51 z61.toNatClampNeg)) C y51 (by omega) rfl dX0_isMet_152 ?_
                refine s_aload_n C dX0_isMet_153 rfl ?_
                refine s_iload C dX0_isMet_154 rfl ?_
                refine s_iald (r := (τ.1 51 z57.toNatClampNeg)) C y51 (by omega) rfl dX0_isMet_156 ?_
                refine s_callSI (st := [.int z59, .ref (ad 51)]) C (c_X0_combined l ad τ z10 ((τ.1 51 z61.toNatClampNeg)) ((τ.1 51 z57.toNatClampNeg)) ) cv_X0_44 rfl rfl ⟨by decide, by decide⟩ (Nat.le_of_ble_eq_true rfl) dX0_isMet_157 ?_
                intro r62 τ63 h64
                obtain ⟨eh64, h64⟩ := h64; replace eh64 := eh64.symm; subst eh64
                refine s_iast C y51 (by omega) dX0_isMet_160 ?_
                refine s_iinc C dX0_isMet_161 rfl (by decide) rfl (by decide) (by omega) (fun z65 tz65 => ?_)
                show WP E ad 164 [some (.ref (ad 31)), some (.ref (ad 1)), some (.int a), some (.ref (ad 51)), some (.int z57), some (.int u), some (.int z65), some (.int z10)] [] (sV τ 51 z59.toNatClampNeg r62)
                refine s_goto (tgt := 9) C dX0_isMet_164 (by decide) ?_
                refine wp_le (lv' := [some (.ref (ad 31)), some (.ref (ad 1)), some (.int a), some (.ref (ad 51)), some (.int z57), some (.int u), some (.int z65), none]) ⟨rfl, ⟨rfl, ⟨rfl, ⟨rfl, ⟨rfl, ⟨rfl, ⟨rfl, trivial⟩⟩⟩⟩⟩⟩⟩ ?_
                exact ih (sV τ 51 z59.toNatClampNeg r62) z57 u z65 (Fr.sV (Fr.tr Fr.rf (Fr.mo kF (by decide) (by decide))) (Or.inl (by decide))) hXτ (by omega) (by omega) (by omega)
            · refine s_iload C dX0_isMet_108 rfl ?_
              refine s_iconst C dX0_isMet_110 (by decide) (fun z66 tz66 => ?_)
              refine s_icmp_lt (tgt := 131) C dX0_isMet_111 (by decide) (fun q67 => ?_) (fun q67 => ?_)
              · refine s_iload C dX0_isMet_131 rfl ?_
                refine s_iconst C dX0_isMet_133 (by decide) (fun z68 tz68 => ?_)
                refine s_icmp_lt (tgt := 161) C dX0_isMet_134 (by decide) (fun q69 => ?_) (fun q69 => ?_)
                · refine s_iinc C dX0_isMet_161 rfl (by decide) rfl (by decide) (by omega) (fun z70 tz70 => ?_)
                  show WP E ad 164 [some (.ref (ad 31)), some (.ref (ad 1)), some (.int a), some (.ref (ad 51)), some (.int t), some (.int u), some (.int z70), some (.int z10)] [] τ
                  refine s_goto (tgt := 9) C dX0_isMet_164 (by decide) ?_
                  refine wp_le (lv' := [some (.ref (ad 31)), some (.ref (ad 1)), some (.int a), some (.ref (ad 51)), some (.int t), some (.int u), some (.int z70), none]) ⟨rfl, ⟨rfl, ⟨rfl, ⟨rfl, ⟨rfl, ⟨rfl, ⟨rfl, trivial⟩⟩⟩⟩⟩⟩⟩ ?_
                  exact ih τ t u z70 (Fr.tr Fr.rf (Fr.mo kF (by decide) (by decide))) hXτ (by omega) (by omega) (by omega)
                · refine s_iinc C dX0_isMet_137 rfl (by decide) rfl (by decide) (by omega) (fun z71 tz71 => ?_)
                  show WP E ad 140 [some (.ref (ad 31)), some (.ref (ad 1)), some (.int a), some (.ref (ad 51)), some (.int z71), some (.int u), some (.int z), some (.int z10)] [] τ
                  refine s_aload_n C dX0_isMet_140 rfl ?_
                  refine s_iload C dX0_isMet_141 rfl ?_
                  refine s_iconst C dX0_isMet_143 (by decide) (fun z72 tz72 => ?_)
                  refine s_isub C dX0_isMet_144 (by omega) (fun z73 tz73 => ?_)
                  refine s_iload C dX0_isMet_145 rfl ?_
                  refine s_aload_n C dX0_isMet_147 rfl ?_
                  refine s_iload C dX0_isMet_148 rfl ?_
                  refine s_iconst C dX0_isMet_150 (by decide) (fun z74 tz74 => ?_)
                  refine s_isub C dX0_isMet_151 (by omega) (fun z75 tz75 => ?_)
                  refine s_iald (r := (τ.1 51 z75.toNatClampNeg)) C y51 (by omega) rfl dX0_isMet_152 ?_
                  refine s_aload_n C dX0_isMet_153 rfl ?_
                  refine s_iload C dX0_isMet_154 rfl ?_
                  refine s_iald (r := (τ.1 51 z71.toNatClampNeg)) C y51 (by omega) rfl dX0_isMet_156 ?_
                  refine s_callSI (st := [.int z73, .ref (ad 51)]) C (c_X0_combined l ad τ z10 ((τ.1 51 z75.toNatClampNeg)) ((τ.1 51 z71.toNatClampNeg)) ) cv_X0_44 rfl rfl ⟨by decide, by decide⟩ (Nat.le_of_ble_eq_true rfl) dX0_isMet_157 ?_
                  intro r76 τ77 h78
                  obtain ⟨eh78, h78⟩ := h78; replace eh78 := eh78.symm; subst eh78
                  refine s_iast C y51 (by omega) dX0_isMet_160 ?_
                  refine s_iinc C dX0_isMet_161 rfl (by decide) rfl (by decide) (by omega) (fun z79 tz79 => ?_)
                  show WP E ad 164 [some (.ref (ad 31)), some (.ref (ad 1)), some (.int a), some (.ref (ad 51)), some (.int z71), some (.int u), some (.int z79), some (.int z10)] [] (sV τ 51 z73.toNatClampNeg r76)
                  refine s_goto (tgt := 9) C dX0_isMet_164 (by decide) ?_
                  refine wp_le (lv' := [some (.ref (ad 31)), some (.ref (ad 1)), some (.int a), some (.ref (ad 51)), some (.int z71), some (.int u), some (.int z79), none]) ⟨rfl, ⟨rfl, ⟨rfl, ⟨rfl, ⟨rfl, ⟨rfl, ⟨rfl, trivial⟩⟩⟩⟩⟩⟩⟩ ?_
                  exact ih (sV τ 51 z73.toNatClampNeg r76) z71 u z79 (Fr.sV (Fr.tr Fr.rf (Fr.mo kF (by decide) (by decide))) (Or.inl (by decide))) hXτ (by omega) (by omega) (by omega)
              · refine s_aload_n C dX0_isMet_114 rfl ?_
                refine s_iload C dX0_isMet_115 rfl ?_
                refine s_iconst C dX0_isMet_117 (by decide) (fun z80 tz80 => ?_)
                refine s_isub C dX0_isMet_118 (by omega) (fun z81 tz81 => ?_)
                refine s_iconst C dX0_isMet_119 (by decide) (fun z82 tz82 => ?_)
                refine s_aload_n C dX0_isMet_120 rfl ?_
                refine s_iload C dX0_isMet_121 rfl ?_
                refine s_iconst C dX0_isMet_123 (by decide) (fun z83 tz83 => ?_)
                refine s_isub C dX0_isMet_124 (by omega) (fun z84 tz84 => ?_)
                refine s_iald (r := (τ.1 51 z84.toNatClampNeg)) C y51 (by omega) rfl dX0_isMet_125 ?_
                refine s_isubU C dX0_isMet_126 (fun z85 tz85 => ?_)
                refine s_iast C y51 (by omega) dX0_isMet_127 ?_
                refine s_goto (tgt := 161) C dX0_isMet_128 (by decide) ?_
                refine s_iinc C dX0_isMet_161 rfl (by decide) rfl (by decide) (by omega) (fun z86 tz86 => ?_)
                show WP E ad 164 [some (.ref (ad 31)), some (.ref (ad 1)), some (.int a), some (.ref (ad 51)), some (.int t), some (.int u), some (.int z86), some (.int z10)] [] (sV τ 51 z81.toNatClampNeg z85)
                refine s_goto (tgt := 9) C dX0_isMet_164 (by decide) ?_
                refine wp_le (lv' := [some (.ref (ad 31)), some (.ref (ad 1)), some (.int a), some (.ref (ad 51)), some (.int t), some (.int u), some (.int z86), none]) ⟨rfl, ⟨rfl, ⟨rfl, ⟨rfl, ⟨rfl, ⟨rfl, ⟨rfl, trivial⟩⟩⟩⟩⟩⟩⟩ ?_
                exact ih (sV τ 51 z81.toNatClampNeg z85) t u z86 (Fr.sV (Fr.tr Fr.rf (Fr.mo kF (by decide) (by decide))) (Or.inl (by decide))) hXτ (by omega) (by omega) (by omega)
          · refine s_aload_n C dX0_isMet_64 rfl ?_
            refine s_iload C dX0_isMet_65 rfl ?_
            refine s_iload C dX0_isMet_67 rfl ?_
            refine s_iconst C dX0_isMet_69 (by decide) (fun z87 tz87 => ?_)
            refine s_icmp_ne (tgt := 78) C dX0_isMet_70 (by decide) (fun q88 => ?_) (fun q88 => ?_)
            · refine s_aload_n C dX0_isMet_78 rfl ?_
              refine s_iload_n C dX0_isMet_79 rfl ?_
              refine s_iload C dX0_isMet_80 rfl ?_
              refine s_aload_n C dX0_isMet_82 rfl ?_
              refine s_getr (k := 2) (j := 43) C y31 fw_X0_19 rfl dX0_isMet_83 ?_
              refine s_iload C dX0_isMet_86 rfl ?_
              refine s_iald (r := (τ.1 43 z.toNatClampNeg)) C y43 (by omega) rfl dX0_isMet_88 ?_
              refine s_iconst C dX0_isMet_89 (by decide) (fun z89 tz89 => ?_)
              skip
              refine s_ishr C dX0_isMet_90 (fun z90 tz90 => ?_)
              refine s_callSI (st := [.int t, .ref (ad 51)]) C (c_X0_unit l ad τ a z10 z90 (by omega) hg (fun h => by have hp := hXτ.C0.2.2 z.toNatClampNeg; unfold PV at hp; rw [show pOp (τ.1 43 z.toNatClampNeg) = z10 by rw [tz10, ceq (n := 15) tz9]; rfl, show pNm (τ.1 43 z.toNatClampNeg) = z90 by rw [tz90, ceq (n := 4) tz89]; rfl] at hp; exact hp h)) cv_X0_40 rfl rfl ⟨by decide, by decide⟩ (Nat.le_of_ble_eq_true rfl) dX0_isMet_91 ?_
              intro r91 τ92 h93
              obtain ⟨eh93, h93⟩ := h93; replace eh93 := eh93.symm; subst eh93
              refine s_iast C y51 (by omega) dX0_isMet_94 ?_
              refine s_iinc C dX0_isMet_95 rfl (by decide) rfl (by decide) (by omega) (fun z94 tz94 => ?_)
              show WP E ad 98 [some (.ref (ad 31)), some (.ref (ad 1)), some (.int a), some (.ref (ad 51)), some (.int z94), some (.int u), some (.int z), some (.int z10)] [] (sV τ 51 t.toNatClampNeg r91)
              refine s_goto (tgt := 161) C dX0_isMet_98 (by decide) ?_
              refine s_iinc C dX0_isMet_161 rfl (by decide) rfl (by decide) (by omega) (fun z95 tz95 => ?_)
              show WP E ad 164 [some (.ref (ad 31)), some (.ref (ad 1)), some (.int a), some (.ref (ad 51)), some (.int z94), some (.int u), some (.int z95), some (.int z10)] [] (sV τ 51 t.toNatClampNeg r91)
              refine s_goto (tgt := 9) C dX0_isMet_164 (by decide) ?_
              refine wp_le (lv' := [some (.ref (ad 31)), some (.ref (ad 1)), some (.int a), some (.ref (ad 51)), some (.int z94), some (.int u), some (.int z95), none]) ⟨rfl, ⟨rfl, ⟨rfl, ⟨rfl, ⟨rfl, ⟨rfl, ⟨rfl, trivial⟩⟩⟩⟩⟩⟩⟩ ?_
              exact ih (sV τ 51 t.toNatClampNeg r91) z94 u z95 (Fr.sV (Fr.tr Fr.rf (Fr.mo kF (by decide) (by decide))) (Or.inl (by decide))) hXτ (by omega) (by omega) (by omega)
            · refine s_iload C dX0_isMet_73 rfl ?_
              refine s_goto (tgt := 94) C dX0_isMet_75 (by decide) ?_
              refine s_iast C y51 (by omega) dX0_isMet_94 ?_
              refine s_iinc C dX0_isMet_95 rfl (by decide) rfl (by decide) (by omega) (fun z96 tz96 => ?_)
              show WP E ad 98 [some (.ref (ad 31)), some (.ref (ad 1)), some (.int a), some (.ref (ad 51)), some (.int z96), some (.int u), some (.int z), some (.int z10)] [] (sV τ 51 t.toNatClampNeg u)
              refine s_goto (tgt := 161) C dX0_isMet_98 (by decide) ?_
              refine s_iinc C dX0_isMet_161 rfl (by decide) rfl (by decide) (by omega) (fun z97 tz97 => ?_)
              show WP E ad 164 [some (.ref (ad 31)), some (.ref (ad 1)), some (.int a), some (.ref (ad 51)), some (.int z96), some (.int u), some (.int z97), some (.int z10)] [] (sV τ 51 t.toNatClampNeg u)
              refine s_goto (tgt := 9) C dX0_isMet_164 (by decide) ?_
              refine wp_le (lv' := [some (.ref (ad 31)), some (.ref (ad 1)), some (.int a), some (.ref (ad 51)), some (.int z96), some (.int u), some (.int z97), none]) ⟨rfl, ⟨rfl, ⟨rfl, ⟨rfl, ⟨rfl, ⟨rfl, ⟨rfl, trivial⟩⟩⟩⟩⟩⟩⟩ ?_
              exact ih (sV τ 51 t.toNatClampNeg u) z96 u z97 (Fr.sV (Fr.tr Fr.rf (Fr.mo kF (by decide) (by decide))) (Or.inl (by decide))) hXτ (by omega) (by omega) (by omega)
      · refine s_iload C dX0_isMet_36 rfl ?_
        refine s_if_ge (tgt := 51) C dX0_isMet_38 (by decide) (fun q98 => ?_) (fun q98 => ?_)
        · refine s_iload C dX0_isMet_51 rfl ?_
          refine s_iconst C dX0_isMet_53 (by decide) (fun z99 tz99 => ?_)
          refine s_icmp_gt (tgt := 101) C dX0_isMet_54 (by decide) (fun q100 => ?_) (fun q100 => ?_)
          · refine s_iload C dX0_isMet_101 rfl ?_
            refine s_bipush C dX0_isMet_103 (by decide) (fun z101 tz101 => ?_)
            refine s_icmp_ne (tgt := 131) C dX0_isMet_105 (by decide) (fun q102 => ?_) (fun q102 => ?_)
            · refine s_iload C dX0_isMet_131 rfl ?_
              refine s_iconst C dX0_isMet_133 (by decide) (fun z103 tz103 => ?_)
              refine s_icmp_lt (tgt := 161) C dX0_isMet_134 (by decide) (fun q104 => ?_) (fun q104 => ?_)
              · refine s_iinc C dX0_isMet_161 rfl (by decide) rfl (by decide) (by omega) (fun z105 tz105 => ?_)
                show WP E ad 164 [some (.ref (ad 31)), some (.ref (ad 1)), some (.int a), some (.ref (ad 51)), some (.int t), some (.int u), some (.int z105), some (.int z10)] [] τ
                refine s_goto (tgt := 9) C dX0_isMet_164 (by decide) ?_
                refine wp_le (lv' := [some (.ref (ad 31)), some (.ref (ad 1)), some (.int a), some (.ref (ad 51)), some (.int t), some (.int u), some (.int z105), none]) ⟨rfl, ⟨rfl, ⟨rfl, ⟨rfl, ⟨rfl, ⟨rfl, ⟨rfl, trivial⟩⟩⟩⟩⟩⟩⟩ ?_
                exact ih τ t u z105 (Fr.tr Fr.rf (Fr.mo kF (by decide) (by decide))) hXτ (by omega) (by omega) (by omega)
              · refine s_iinc C dX0_isMet_137 rfl (by decide) rfl (by decide) (by omega) (fun z106 tz106 => ?_)
                show WP E ad 140 [some (.ref (ad 31)), some (.ref (ad 1)), some (.int a), some (.ref (ad 51)), some (.int z106), some (.int u), some (.int z), some (.int z10)] [] τ
                refine s_aload_n C dX0_isMet_140 rfl ?_
                refine s_iload C dX0_isMet_141 rfl ?_
                refine s_iconst C dX0_isMet_143 (by decide) (fun z107 tz107 => ?_)
                refine s_isub C dX0_isMet_144 (by omega) (fun z108 tz108 => ?_)
                refine s_iload C dX0_isMet_145 rfl ?_
                refine s_aload_n C dX0_isMet_147 rfl ?_
                refine s_iload C dX0_isMet_148 rfl ?_
                refine s_iconst C dX0_isMet_150 (by decide) (fun z109 tz109 => ?_)
                refine s_isub C dX0_isMet_151 (by omega) (fun z110 tz110 => ?_)
                refine s_iald (r := (τ.1 51 z110.toNatClampNeg)) C y51 (by omega) rfl dX0_isMet_152 ?_
                refine s_aload_n C dX0_isMet_153 rfl ?_
                refine s_iload C dX0_isMet_154 rfl ?_
                refine s_iald (r := (τ.1 51 z106.toNatClampNeg)) C y51 (by omega) rfl dX0_isMet_156 ?_
                refine s_callSI (st := [.int z108, .ref (ad 51)]) C (c_X0_combined l ad τ z10 ((τ.1 51 z110.toNatClampNeg)) ((τ.1 51 z106.toNatClampNeg)) ) cv_X0_44 rfl rfl ⟨by decide, by decide⟩ (Nat.le_of_ble_eq_true rfl) dX0_isMet_157 ?_
                intro r111 τ112 h113
                obtain ⟨eh113, h113⟩ := h113; replace eh113 := eh113.symm; subst eh113
                refine s_iast C y51 (by omega) dX0_isMet_160 ?_
                refine s_iinc C dX0_isMet_161 rfl (by decide) rfl (by decide) (by omega) (fun z114 tz114 => ?_)
                show WP E ad 164 [some (.ref (ad 31)), some (.ref (ad 1)), some (.int a), some (.ref (ad 51)), some (.int z106), some (.int u), some (.int z114), some (.int z10)] [] (sV τ 51 z108.toNatClampNeg r111)
                refine s_goto (tgt := 9) C dX0_isMet_164 (by decide) ?_
                refine wp_le (lv' := [some (.ref (ad 31)), some (.ref (ad 1)), some (.int a), some (.ref (ad 51)), some (.int z106), some (.int u), some (.int z114), none]) ⟨rfl, ⟨rfl, ⟨rfl, ⟨rfl, ⟨rfl, ⟨rfl, ⟨rfl, trivial⟩⟩⟩⟩⟩⟩⟩ ?_
                exact ih (sV τ 51 z108.toNatClampNeg r111) z106 u z114 (Fr.sV (Fr.tr Fr.rf (Fr.mo kF (by decide) (by decide))) (Or.inl (by decide))) hXτ (by omega) (by omega) (by omega)
            · refine s_iload C dX0_isMet_108 rfl ?_
              refine s_iconst C dX0_isMet_110 (by decide) (fun z115 tz115 => ?_)
              refine s_icmp_lt (tgt := 131) C dX0_isMet_111 (by decide) (fun q116 => ?_) (fun q116 => ?_)
              · refine s_iload C dX0_isMet_131 rfl ?_
                refine s_iconst C dX0_isMet_133 (by decide) (fun z117 tz117 => ?_)
                refine s_icmp_lt (tgt := 161) C dX0_isMet_134 (by decide) (fun q118 => ?_) (fun q118 => ?_)
                · refine s_iinc C dX0_isMet_161 rfl (by decide) rfl (by decide) (by omega) (fun z119 tz119 => ?_)
                  show WP E ad 164 [some (.ref (ad 31)), some (.ref (ad 1)), some (.int a), some (.ref (ad 51)), some (.int t), some (.int u), some (.int z119), some (.int z10)] [] τ
                  refine s_goto (tgt := 9) C dX0_isMet_164 (by decide) ?_
                  refine wp_le (lv' := [some (.ref (ad 31)), some (.ref (ad 1)), some (.int a), some (.ref (ad 51)), some (.int t), some (.int u), some (.int z119), none]) ⟨rfl, ⟨rfl, ⟨rfl, ⟨rfl, ⟨rfl, ⟨rfl, ⟨rfl, trivial⟩⟩⟩⟩⟩⟩⟩ ?_
                  exact ih τ t u z119 (Fr.tr Fr.rf (Fr.mo kF (by decide) (by decide))) hXτ (by omega) (by omega) (by omega)
                · refine s_iinc C dX0_isMet_137 rfl (by decide) rfl (by decide) (by omega) (fun z120 tz120 => ?_)
                  show WP E ad 140 [some (.ref (ad 31)), some (.ref (ad 1)), some (.int a), some (.ref (ad 51)), some (.int z120), some (.int u), some (.int z), some (.int z10)] [] τ
                  refine s_aload_n C dX0_isMet_140 rfl ?_
                  refine s_iload C dX0_isMet_141 rfl ?_
                  refine s_iconst C dX0_isMet_143 (by decide) (fun z121 tz121 => ?_)
                  refine s_isub C dX0_isMet_144 (by omega) (fun z122 tz122 => ?_)
                  refine s_iload C dX0_isMet_145 rfl ?_
                  refine s_aload_n C dX0_isMet_147 rfl ?_
                  refine s_iload C dX0_isMet_148 rfl ?_
                  refine s_iconst C dX0_isMet_150 (by decide) (fun z123 tz123 => ?_)
                  refine s_isub C dX0_isMet_151 (by omega) (fun z124 tz124 => ?_)
                  refine s_iald (r := (τ.1 51 z124.toNatClampNeg)) C y51 (by omega) rfl dX0_isMet_152 ?_
                  refine s_aload_n C dX0_isMet_153 rfl ?_
                  refine s_iload C dX0_isMet_154 rfl ?_
                  refine s_iald (r := (τ.1 51 z120.toNatClampNeg)) C y51 (by omega) rfl dX0_isMet_156 ?_
                  refine s_callSI (st := [.int z122, .ref (ad 51)]) C (c_X0_combined l ad τ z10 ((τ.1 51 z124.toNatClampNeg)) ((τ.1 51 z120.toNatClampNeg)) ) cv_X0_44 rfl rfl ⟨by decide, by decide⟩ (Nat.le_of_ble_eq_true rfl) dX0_isMet_157 ?_
                  intro r125 τ126 h127
                  obtain ⟨eh127, h127⟩ := h127; replace eh127 := eh127.symm; subst eh127
                  refine s_iast C y51 (by omega) dX0_isMet_160 ?_
                  refine s_iinc C dX0_isMet_161 rfl (by decide) rfl (by decide) (by omega) (fun z128 tz128 => ?_)
                  show WP E ad 164 [some (.ref (ad 31)), some (.ref (ad 1)), some (.int a), some (.ref (ad 51)), some (.int z120), some (.int u), some (.int z128), some (.int z10)] [] (sV τ 51 z122.toNatClampNeg r125)
                  refine s_goto (tgt := 9) C dX0_isMet_164 (by decide) ?_
                  refine wp_le (lv' := [some (.ref (ad 31)), some (.ref (ad 1)), some (.int a), some (.ref (ad 51)), some (.int z120), some (.int u), some (.int z128), none]) ⟨rfl, ⟨rfl, ⟨rfl, ⟨rfl, ⟨rfl, ⟨rfl, ⟨rfl, trivial⟩⟩⟩⟩⟩⟩⟩ ?_
                  exact ih (sV τ 51 z122.toNatClampNeg r125) z120 u z128 (Fr.sV (Fr.tr Fr.rf (Fr.mo kF (by decide) (by decide))) (Or.inl (by decide))) hXτ (by omega) (by omega) (by omega)
              · refine s_aload_n C dX0_isMet_114 rfl ?_
                refine s_iload C dX0_isMet_115 rfl ?_
                refine s_iconst C dX0_isMet_117 (by decide) (fun z129 tz129 => ?_)
                refine s_isub C dX0_isMet_118 (by omega) (fun z130 tz130 => ?_)
                refine s_iconst C dX0_isMet_119 (by decide) (fun z131 tz131 => ?_)
                refine s_aload_n C dX0_isMet_120 rfl ?_
                refine s_iload C dX0_isMet_121 rfl ?_
                refine s_iconst C dX0_isMet_123 (by decide) (fun z132 tz132 => ?_)
                refine s_isub C dX0_isMet_124 (by omega) (fun z133 tz133 => ?_)
                refine s_iald (r := (τ.1 51 z133.toNatClampNeg)) C y51 (by omega) rfl dX0_isMet_125 ?_
                refine s_isubU C dX0_isMet_126 (fun z134 tz134 => ?_)
                refine s_iast C y51 (by omega) dX0_isMet_127 ?_
                refine s_goto (tgt := 161) C dX0_isMet_128 (by decide) ?_
                refine s_iinc C dX0_isMet_161 rfl (by decide) rfl (by decide) (by omega) (fun z135 tz135 => ?_)
                show WP E ad 164 [some (.ref (ad 31)), some (.ref (ad 1)), some (.int a), some (.ref (ad 51)), some (.int t), some (.int u), some (.int z135), some (.int z10)] [] (sV τ 51 z130.toNatClampNeg z134)
                refine s_goto (tgt := 9) C dX0_isMet_164 (by decide) ?_
                refine wp_le (lv' := [some (.ref (ad 31)), some (.ref (ad 1)), some (.int a), some (.ref (ad 51)), some (.int t), some (.int u), some (.int z135), none]) ⟨rfl, ⟨rfl, ⟨rfl, ⟨rfl, ⟨rfl, ⟨rfl, ⟨rfl, trivial⟩⟩⟩⟩⟩⟩⟩ ?_
                exact ih (sV τ 51 z130.toNatClampNeg z134) t u z135 (Fr.sV (Fr.tr Fr.rf (Fr.mo kF (by decide) (by decide))) (Or.inl (by decide))) hXτ (by omega) (by omega) (by omega)
          · refine s_iload C dX0_isMet_57 rfl ?_
            refine s_aload_n C dX0_isMet_59 rfl ?_
            refine s_alen0 C y51 (by omega) dX0_isMet_60 (fun z136 tz136 => ?_)
            refine s_icmp_ge (tgt := 101) C dX0_isMet_61 (by decide) (fun q137 => ?_) (fun q137 => ?_)
            · refine s_iload C dX0_isMet_101 rfl ?_
              refine s_bipush C dX0_isMet_103 (by decide) (fun z138 tz138 => ?_)
              refine s_icmp_ne (tgt := 131) C dX0_isMet_105 (by decide) (fun q139 => ?_) (fun q139 => ?_)
              · refine s_iload C dX0_isMet_131 rfl ?_
                refine s_iconst C dX0_isMet_133 (by decide) (fun z140 tz140 => ?_)
                refine s_icmp_lt (tgt := 161) C dX0_isMet_134 (by decide) (fun q141 => ?_) (fun q141 => ?_)
                · refine s_iinc C dX0_isMet_161 rfl (by decide) rfl (by decide) (by omega) (fun z142 tz142 => ?_)
                  show WP E ad 164 [some (.ref (ad 31)), some (.ref (ad 1)), some (.int a), some (.ref (ad 51)), some (.int t), some (.int u), some (.int z142), some (.int z10)] [] τ
                  refine s_goto (tgt := 9) C dX0_isMet_164 (by decide) ?_
                  refine wp_le (lv' := [some (.ref (ad 31)), some (.ref (ad 1)), some (.int a), some (.ref (ad 51)), some (.int t), some (.int u), some (.int z142), none]) ⟨rfl, ⟨rfl, ⟨rfl, ⟨rfl, ⟨rfl, ⟨rfl, ⟨rfl, trivial⟩⟩⟩⟩⟩⟩⟩ ?_
                  exact ih τ t u z142 (Fr.tr Fr.rf (Fr.mo kF (by decide) (by decide))) hXτ (by omega) (by omega) (by omega)
                · refine s_iinc C dX0_isMet_137 rfl (by decide) rfl (by decide) (by omega) (fun z143 tz143 => ?_)
                  show WP E ad 140 [some (.ref (ad 31)), some (.ref (ad 1)), some (.int a), some (.ref (ad 51)), some (.int z143), some (.int u), some (.int z), some (.int z10)] [] τ
                  refine s_aload_n C dX0_isMet_140 rfl ?_
                  refine s_iload C dX0_isMet_141 rfl ?_
                  refine s_iconst C dX0_isMet_143 (by decide) (fun z144 tz144 => ?_)
                  refine s_isub C dX0_isMet_144 (by omega) (fun z145 tz145 => ?_)
                  refine s_iload C dX0_isMet_145 rfl ?_
                  refine s_aload_n C dX0_isMet_147 rfl ?_
                  refine s_iload C dX0_isMet_148 rfl ?_
                  refine s_iconst C dX0_isMet_150 (by decide) (fun z146 tz146 => ?_)
                  refine s_isub C dX0_isMet_151 (by omega) (fun z147 tz147 => ?_)
                  refine s_iald (r := (τ.1 51 z147.toNatClampNeg)) C y51 (by omega) rfl dX0_isMet_152 ?_
                  refine s_aload_n C dX0_isMet_153 rfl ?_
                  refine s_iload C dX0_isMet_154 rfl ?_
                  refine s_iald (r := (τ.1 51 z143.toNatClampNeg)) C y51 (by omega) rfl dX0_isMet_156 ?_
                  refine s_callSI (st := [.int z145, .ref (ad 51)]) C (c_X0_combined l ad τ z10 ((τ.1 51 z147.toNatClampNeg)) ((τ.1 51 z143.toNatClampNeg)) ) cv_X0_44 rfl rfl ⟨by decide, by decide⟩ (Nat.le_of_ble_eq_true rfl) dX0_isMet_157 ?_
                  intro r148 τ149 h150
                  obtain ⟨eh150, h150⟩ := h150; replace eh150 := eh150.symm; subst eh150
                  refine s_iast C y51 (by omega) dX0_isMet_160 ?_
                  refine s_iinc C dX0_isMet_161 rfl (by decide) rfl (by decide) (by omega) (fun z151 tz151 => ?_)
                  show WP E ad 164 [some (.ref (ad 31)), some (.ref (ad 1)), some (.int a), some (.ref (ad 51)), some (.int z143), some (.int u), some (.int z151), some (.int z10)] [] (sV τ 51 z145.toNatClampNeg r148)
                  refine s_goto (tgt := 9) C dX0_isMet_164 (by decide) ?_
                  refine wp_le (lv' := [some (.ref (ad 31)), some (.ref (ad 1)), some (.int a), some (.ref (ad 51)), some (.int z143), some (.int u), some (.int z151), none]) ⟨rfl, ⟨rfl, ⟨rfl, ⟨rfl, ⟨rfl, ⟨rfl, ⟨rfl, trivial⟩⟩⟩⟩⟩⟩⟩ ?_
                  exact ih (sV τ 51 z145.toNatClampNeg r148) z143 u z151 (Fr.sV (Fr.tr Fr.rf (Fr.mo kF (by decide) (by decide))) (Or.inl (by decide))) hXτ (by omega) (by omega) (by omega)
              · refine s_iload C dX0_isMet_108 rfl ?_
                refine s_iconst C dX0_isMet_110 (by decide) (fun z152 tz152 => ?_)
                refine s_icmp_lt (tgt := 131) C dX0_isMet_111 (by decide) (fun q153 => ?_) (fun q153 => ?_)
                · refine s_iload C dX0_isMet_131 rfl ?_
                  refine s_iconst C dX0_isMet_133 (by decide) (fun z154 tz154 => ?_)
                  refine s_icmp_lt (tgt := 161) C dX0_isMet_134 (by decide) (fun q155 => ?_) (fun q155 => ?_)
                  · refine s_iinc C dX0_isMet_161 rfl (by decide) rfl (by decide) (by omega) (fun z156 tz156 => ?_)
                    show WP E ad 164 [some (.ref (ad 31)), some (.ref (ad 1)), some (.int a), some (.ref (ad 51)), some (.int t), some (.int u), some (.int z156), some (.int z10)] [] τ
                    refine s_goto (tgt := 9) C dX0_isMet_164 (by decide) ?_
                    refine wp_le (lv' := [some (.ref (ad 31)), some (.ref (ad 1)), some (.int a), some (.ref (ad 51)), some (.int t), some (.int u), some (.int z156), none]) ⟨rfl, ⟨rfl, ⟨rfl, ⟨rfl, ⟨rfl, ⟨rfl, ⟨rfl, trivial⟩⟩⟩⟩⟩⟩⟩ ?_
                    exact ih τ t u z156 (Fr.tr Fr.rf (Fr.mo kF (by decide) (by decide))) hXτ (by omega) (by omega) (by omega)
                  · refine s_iinc C dX0_isMet_137 rfl (by decide) rfl (by decide) (by omega) (fun z157 tz157 => ?_)
                    show WP E ad 140 [some (.ref (ad 31)), some (.ref (ad 1)), some (.int a), some (.ref (ad 51)), some (.int z157), some (.int u), some (.int z), some (.int z10)] [] τ
                    refine s_aload_n C dX0_isMet_140 rfl ?_
                    refine s_iload C dX0_isMet_141 rfl ?_
                    refine s_iconst C dX0_isMet_143 (by decide) (fun z158 tz158 => ?_)
                    refine s_isub C dX0_isMet_144 (by omega) (fun z159 tz159 => ?_)
                    refine s_iload C dX0_isMet_145 rfl ?_
                    refine s_aload_n C dX0_isMet_147 rfl ?_
                    refine s_iload C dX0_isMet_148 rfl ?_
                    refine s_iconst C dX0_isMet_150 (by decide) (fun z160 tz160 => ?_)
                    refine s_isub C dX0_isMet_151 (by omega) (fun z161 tz161 => ?_)
                    refine s_iald (r := (τ.1 51 z161.toNatClampNeg)) C y51 (by omega) rfl dX0_isMet_152 ?_
                    refine s_aload_n C dX0_isMet_153 rfl ?_
                    refine s_iload C dX0_isMet_154 rfl ?_
                    refine s_iald (r := (τ.1 51 z157.toNatClampNeg)) C y51 (by omega) rfl dX0_isMet_156 ?_
                    refine s_callSI (st := [.int z159, .ref (ad 51)]) C (c_X0_combined l ad τ z10 ((τ.1 51 z161.toNatClampNeg)) ((τ.1 51 z157.toNatClampNeg)) ) cv_X0_44 rfl rfl ⟨by decide, by decide⟩ (Nat.le_of_ble_eq_true rfl) dX0_isMet_157 ?_
                    intro r162 τ163 h164
                    obtain ⟨eh164, h164⟩ := h164; replace eh164 := eh164.symm; subst eh164
                    refine s_iast C y51 (by omega) dX0_isMet_160 ?_
                    refine s_iinc C dX0_isMet_161 rfl (by decide) rfl (by decide) (by omega) (fun z165 tz165 => ?_)
                    show WP E ad 164 [some (.ref (ad 31)), some (.ref (ad 1)), some (.int a), some (.ref (ad 51)), some (.int z157), some (.int u), some (.int z165), some (.int z10)] [] (sV τ 51 z159.toNatClampNeg r162)
                    refine s_goto (tgt := 9) C dX0_isMet_164 (by decide) ?_
                    refine wp_le (lv' := [some (.ref (ad 31)), some (.ref (ad 1)), some (.int a), some (.ref (ad 51)), some (.int z157), some (.int u), some (.int z165), none]) ⟨rfl, ⟨rfl, ⟨rfl, ⟨rfl, ⟨rfl, ⟨rfl, ⟨rfl, trivial⟩⟩⟩⟩⟩⟩⟩ ?_
                    exact ih (sV τ 51 z159.toNatClampNeg r162) z157 u z165 (Fr.sV (Fr.tr Fr.rf (Fr.mo kF (by decide) (by decide))) (Or.inl (by decide))) hXτ (by omega) (by omega) (by omega)
                · refine s_aload_n C dX0_isMet_114 rfl ?_
                  refine s_iload C dX0_isMet_115 rfl ?_
                  refine s_iconst C dX0_isMet_117 (by decide) (fun z166 tz166 => ?_)
                  refine s_isub C dX0_isMet_118 (by omega) (fun z167 tz167 => ?_)
                  refine s_iconst C dX0_isMet_119 (by decide) (fun z168 tz168 => ?_)
                  refine s_aload_n C dX0_isMet_120 rfl ?_
                  refine s_iload C dX0_isMet_121 rfl ?_
                  refine s_iconst C dX0_isMet_123 (by decide) (fun z169 tz169 => ?_)
                  refine s_isub C dX0_isMet_124 (by omega) (fun z170 tz170 => ?_)
                  refine s_iald (r := (τ.1 51 z170.toNatClampNeg)) C y51 (by omega) rfl dX0_isMet_125 ?_
                  refine s_isubU C dX0_isMet_126 (fun z171 tz171 => ?_)
                  refine s_iast C y51 (by omega) dX0_isMet_127 ?_
                  refine s_goto (tgt := 161) C dX0_isMet_128 (by decide) ?_
                  refine s_iinc C dX0_isMet_161 rfl (by decide) rfl (by decide) (by omega) (fun z172 tz172 => ?_)
                  show WP E ad 164 [some (.ref (ad 31)), some (.ref (ad 1)), some (.int a), some (.ref (ad 51)), some (.int t), some (.int u), some (.int z172), some (.int z10)] [] (sV τ 51 z167.toNatClampNeg z171)
                  refine s_goto (tgt := 9) C dX0_isMet_164 (by decide) ?_
                  refine wp_le (lv' := [some (.ref (ad 31)), some (.ref (ad 1)), some (.int a), some (.ref (ad 51)), some (.int t), some (.int u), some (.int z172), none]) ⟨rfl, ⟨rfl, ⟨rfl, ⟨rfl, ⟨rfl, ⟨rfl, ⟨rfl, trivial⟩⟩⟩⟩⟩⟩⟩ ?_
                  exact ih (sV τ 51 z167.toNatClampNeg z171) t u z172 (Fr.sV (Fr.tr Fr.rf (Fr.mo kF (by decide) (by decide))) (Or.inl (by decide))) hXτ (by omega) (by omega) (by omega)
            · refine s_aload_n C dX0_isMet_64 rfl ?_
              refine s_iload C dX0_isMet_65 rfl ?_
              refine s_iload C dX0_isMet_67 rfl ?_
              refine s_iconst C dX0_isMet_69 (by decide) (fun z173 tz173 => ?_)
              refine s_icmp_ne (tgt := 78) C dX0_isMet_70 (by decide) (fun q174 => ?_) (fun q174 => ?_)
              · refine s_aload_n C dX0_isMet_78 rfl ?_
                refine s_iload_n C dX0_isMet_79 rfl ?_
                refine s_iload C dX0_isMet_80 rfl ?_
                refine s_aload_n C dX0_isMet_82 rfl ?_
                refine s_getr (k := 2) (j := 43) C y31 fw_X0_19 rfl dX0_isMet_83 ?_
                refine s_iload C dX0_isMet_86 rfl ?_
                refine s_iald (r := (τ.1 43 z.toNatClampNeg)) C y43 (by omega) rfl dX0_isMet_88 ?_
                refine s_iconst C dX0_isMet_89 (by decide) (fun z175 tz175 => ?_)
                skip
                refine s_ishr C dX0_isMet_90 (fun z176 tz176 => ?_)
                refine s_callSI (st := [.int t, .ref (ad 51)]) C (c_X0_unit l ad τ a z10 z176 (by omega) hg (fun h => by have hp := hXτ.C0.2.2 z.toNatClampNeg; unfold PV at hp; rw [show pOp (τ.1 43 z.toNatClampNeg) = z10 by rw [tz10, ceq (n := 15) tz9]; rfl, show pNm (τ.1 43 z.toNatClampNeg) = z176 by rw [tz176, ceq (n := 4) tz175]; rfl] at hp; exact hp h)) cv_X0_40 rfl rfl ⟨by decide, by decide⟩ (Nat.le_of_ble_eq_true rfl) dX0_isMet_91 ?_
                intro r177 τ178 h179
                obtain ⟨eh179, h179⟩ := h179; replace eh179 := eh179.symm; subst eh179
                refine s_iast C y51 (by omega) dX0_isMet_94 ?_
                refine s_iinc C dX0_isMet_95 rfl (by decide) rfl (by decide) (by omega) (fun z180 tz180 => ?_)
                show WP E ad 98 [some (.ref (ad 31)), some (.ref (ad 1)), some (.int a), some (.ref (ad 51)), some (.int z180), some (.int u), some (.int z), some (.int z10)] [] (sV τ 51 t.toNatClampNeg r177)
                refine s_goto (tgt := 161) C dX0_isMet_98 (by decide) ?_
                refine s_iinc C dX0_isMet_161 rfl (by decide) rfl (by decide) (by omega) (fun z181 tz181 => ?_)
                show WP E ad 164 [some (.ref (ad 31)), some (.ref (ad 1)), some (.int a), some (.ref (ad 51)), some (.int z180), some (.int u), some (.int z181), some (.int z10)] [] (sV τ 51 t.toNatClampNeg r177)
                refine s_goto (tgt := 9) C dX0_isMet_164 (by decide) ?_
                refine wp_le (lv' := [some (.ref (ad 31)), some (.ref (ad 1)), some (.int a), some (.ref (ad 51)), some (.int z180), some (.int u), some (.int z181), none]) ⟨rfl, ⟨rfl, ⟨rfl, ⟨rfl, ⟨rfl, ⟨rfl, ⟨rfl, trivial⟩⟩⟩⟩⟩⟩⟩ ?_
                exact ih (sV τ 51 t.toNatClampNeg r177) z180 u z181 (Fr.sV (Fr.tr Fr.rf (Fr.mo kF (by decide) (by decide))) (Or.inl (by decide))) hXτ (by omega) (by omega) (by omega)
              · refine s_iload C dX0_isMet_73 rfl ?_
                refine s_goto (tgt := 94) C dX0_isMet_75 (by decide) ?_
                refine s_iast C y51 (by omega) dX0_isMet_94 ?_
                refine s_iinc C dX0_isMet_95 rfl (by decide) rfl (by decide) (by omega) (fun z182 tz182 => ?_)
                show WP E ad 98 [some (.ref (ad 31)), some (.ref (ad 1)), some (.int a), some (.ref (ad 51)), some (.int z182), some (.int u), some (.int z), some (.int z10)] [] (sV τ 51 t.toNatClampNeg u)
                refine s_goto (tgt := 161) C dX0_isMet_98 (by decide) ?_
                refine s_iinc C dX0_isMet_161 rfl (by decide) rfl (by decide) (by omega) (fun z183 tz183 => ?_)
                show WP E ad 164 [some (.ref (ad 31)), some (.ref (ad 1)), some (.int a), some (.ref (ad 51)), some (.int z182), some (.int u), some (.int z183), some (.int z10)] [] (sV τ 51 t.toNatClampNeg u)
                refine s_goto (tgt := 9) C dX0_isMet_164 (by decide) ?_
                refine wp_le (lv' := [some (.ref (ad 31)), some (.ref (ad 1)), some (.int a), some (.ref (ad 51)), some (.int z182), some (.int u), some (.int z183), none]) ⟨rfl, ⟨rfl, ⟨rfl, ⟨rfl, ⟨rfl, ⟨rfl, ⟨rfl, trivial⟩⟩⟩⟩⟩⟩⟩ ?_
                exact ih (sV τ 51 t.toNatClampNeg u) z182 u z183 (Fr.sV (Fr.tr Fr.rf (Fr.mo kF (by decide) (by decide))) (Or.inl (by decide))) hXτ (by omega) (by omega) (by omega)
        · refine s_aload_n C dX0_isMet_41 rfl ?_
          refine s_iload_n C dX0_isMet_42 rfl ?_
          refine s_callVI (st := []) C (c_X5_underWay l ad τ a hXτ) cv_X0_29 y1 rfl rfl rfl ⟨by decide, by decide⟩ (Nat.le_of_ble_eq_true rfl) dX0_isMet_43 ?_
          intro r184 τ185 h186
          obtain ⟨eh186, h186⟩ := h186; replace eh186 := eh186.symm; subst eh186
          refine s_callSI (st := []) C (c_J6_bitCount_0f7a4 l ad τ r184 ) cv_X0_35 rfl rfl ⟨by decide, by decide⟩ (Nat.le_of_ble_eq_true rfl) dX0_isMet_46 ?_
          intro r187 τ188 h189
          obtain ⟨eh189, h189⟩ := h189; replace eh189 := eh189.symm; subst eh189
          refine s_istore C dX0_isMet_49 (by decide) (Nat.le_of_ble_eq_true rfl) rfl ?_
          show WP E ad 51 [some (.ref (ad 31)), some (.ref (ad 1)), some (.int a), some (.ref (ad 51)), some (.int t), some (.int r187), some (.int z), some (.int z10)] [] τ
          refine s_iload C dX0_isMet_51 rfl ?_
          refine s_iconst C dX0_isMet_53 (by decide) (fun z190 tz190 => ?_)
          refine s_icmp_gt (tgt := 101) C dX0_isMet_54 (by decide) (fun q191 => ?_) (fun q191 => ?_)
          · refine s_iload C dX0_isMet_101 rfl ?_
            refine s_bipush C dX0_isMet_103 (by decide) (fun z192 tz192 => ?_)
            refine s_icmp_ne (tgt := 131) C dX0_isMet_105 (by decide) (fun q193 => ?_) (fun q193 => ?_)
            · refine s_iload C dX0_isMet_131 rfl ?_
              refine s_iconst C dX0_isMet_133 (by decide) (fun z194 tz194 => ?_)
              refine s_icmp_lt (tgt := 161) C dX0_isMet_134 (by decide) (fun q195 => ?_) (fun q195 => ?_)
              · refine s_iinc C dX0_isMet_161 rfl (by decide) rfl (by decide) (by omega) (fun z196 tz196 => ?_)
                show WP E ad 164 [some (.ref (ad 31)), some (.ref (ad 1)), some (.int a), some (.ref (ad 51)), some (.int t), some (.int r187), some (.int z196), some (.int z10)] [] τ
                refine s_goto (tgt := 9) C dX0_isMet_164 (by decide) ?_
                refine wp_le (lv' := [some (.ref (ad 31)), some (.ref (ad 1)), some (.int a), some (.ref (ad 51)), some (.int t), some (.int r187), some (.int z196), none]) ⟨rfl, ⟨rfl, ⟨rfl, ⟨rfl, ⟨rfl, ⟨rfl, ⟨rfl, trivial⟩⟩⟩⟩⟩⟩⟩ ?_
                exact ih τ t r187 z196 (Fr.tr Fr.rf (Fr.mo kF (by decide) (by decide))) hXτ (by omega) (by omega) (by omega)
              · refine s_iinc C dX0_isMet_137 rfl (by decide) rfl (by decide) (by omega) (fun z197 tz197 => ?_)
                show WP E ad 140 [some (.ref (ad 31)), some (.ref (ad 1)), some (.int a), some (.ref (ad 51)), some (.int z197), some (.int r187), some (.int z), some (.int z10)] [] τ
                refine s_aload_n C dX0_isMet_140 rfl ?_
                refine s_iload C dX0_isMet_141 rfl ?_
                refine s_iconst C dX0_isMet_143 (by decide) (fun z198 tz198 => ?_)
                refine s_isub C dX0_isMet_144 (by omega) (fun z199 tz199 => ?_)
                refine s_iload C dX0_isMet_145 rfl ?_
                refine s_aload_n C dX0_isMet_147 rfl ?_
                refine s_iload C dX0_isMet_148 rfl ?_
                refine s_iconst C dX0_isMet_150 (by decide) (fun z200 tz200 => ?_)
                refine s_isub C dX0_isMet_151 (by omega) (fun z201 tz201 => ?_)
                refine s_iald (r := (τ.1 51 z201.toNatClampNeg)) C y51 (by omega) rfl dX0_isMet_152 ?_
                refine s_aload_n C dX0_isMet_153 rfl ?_
                refine s_iload C dX0_isMet_154 rfl ?_
                refine s_iald (r := (τ.1 51 z197.toNatClampNeg)) C y51 (by omega) rfl dX0_isMet_156 ?_
                refine s_callSI (st := [.int z199, .ref (ad 51)]) C (c_X0_combined l ad τ z10 ((τ.1 51 z201.toNatClampNeg)) ((τ.1 51 z197.toNatClampNeg)) ) cv_X0_44 rfl rfl ⟨by decide, by decide⟩ (Nat.le_of_ble_eq_true rfl) dX0_isMet_157 ?_
                intro r202 τ203 h204
                obtain ⟨eh204, h204⟩ := h204; replace eh204 := eh204.symm; subst eh204
                refine s_iast C y51 (by omega) dX0_isMet_160 ?_
                refine s_iinc C dX0_isMet_161 rfl (by decide) rfl (by decide) (by omega) (fun z205 tz205 => ?_)
                show WP E ad 164 [some (.ref (ad 31)), some (.ref (ad 1)), some (.int a), some (.ref (ad 51)), some (.int z197), some (.int r187), some (.int z205), some (.int z10)] [] (sV τ 51 z199.toNatClampNeg r202)
                refine s_goto (tgt := 9) C dX0_isMet_164 (by decide) ?_
                refine wp_le (lv' := [some (.ref (ad 31)), some (.ref (ad 1)), some (.int a), some (.ref (ad 51)), some (.int z197), some (.int r187), some (.int z205), none]) ⟨rfl, ⟨rfl, ⟨rfl, ⟨rfl, ⟨rfl, ⟨rfl, ⟨rfl, trivial⟩⟩⟩⟩⟩⟩⟩ ?_
                exact ih (sV τ 51 z199.toNatClampNeg r202) z197 r187 z205 (Fr.sV (Fr.tr Fr.rf (Fr.mo kF (by decide) (by decide))) (Or.inl (by decide))) hXτ (by omega) (by omega) (by omega)
            · refine s_iload C dX0_isMet_108 rfl ?_
              refine s_iconst C dX0_isMet_110 (by decide) (fun z206 tz206 => ?_)
              refine s_icmp_lt (tgt := 131) C dX0_isMet_111 (by decide) (fun q207 => ?_) (fun q207 => ?_)
              · refine s_iload C dX0_isMet_131 rfl ?_
                refine s_iconst C dX0_isMet_133 (by decide) (fun z208 tz208 => ?_)
                refine s_icmp_lt (tgt := 161) C dX0_isMet_134 (by decide) (fun q209 => ?_) (fun q209 => ?_)
                · refine s_iinc C dX0_isMet_161 rfl (by decide) rfl (by decide) (by omega) (fun z210 tz210 => ?_)
                  show WP E ad 164 [some (.ref (ad 31)), some (.ref (ad 1)), some (.int a), some (.ref (ad 51)), some (.int t), some (.int r187), some (.int z210), some (.int z10)] [] τ
                  refine s_goto (tgt := 9) C dX0_isMet_164 (by decide) ?_
                  refine wp_le (lv' := [some (.ref (ad 31)), some (.ref (ad 1)), some (.int a), some (.ref (ad 51)), some (.int t), some (.int r187), some (.int z210), none]) ⟨rfl, ⟨rfl, ⟨rfl, ⟨rfl, ⟨rfl, ⟨rfl, ⟨rfl, trivial⟩⟩⟩⟩⟩⟩⟩ ?_
                  exact ih τ t r187 z210 (Fr.tr Fr.rf (Fr.mo kF (by decide) (by decide))) hXτ (by omega) (by omega) (by omega)
                · refine s_iinc C dX0_isMet_137 rfl (by decide) rfl (by decide) (by omega) (fun z211 tz211 => ?_)
                  show WP E ad 140 [some (.ref (ad 31)), some (.ref (ad 1)), some (.int a), some (.ref (ad 51)), some (.int z211), some (.int r187), some (.int z), some (.int z10)] [] τ
                  refine s_aload_n C dX0_isMet_140 rfl ?_
                  refine s_iload C dX0_isMet_141 rfl ?_
                  refine s_iconst C dX0_isMet_143 (by decide) (fun z212 tz212 => ?_)
                  refine s_isub C dX0_isMet_144 (by omega) (fun z213 tz213 => ?_)
                  refine s_iload C dX0_isMet_145 rfl ?_
                  refine s_aload_n C dX0_isMet_147 rfl ?_
                  refine s_iload C dX0_isMet_148 rfl ?_
                  refine s_iconst C dX0_isMet_150 (by decide) (fun z214 tz214 => ?_)
                  refine s_isub C dX0_isMet_151 (by omega) (fun z215 tz215 => ?_)
                  refine s_iald (r := (τ.1 51 z215.toNatClampNeg)) C y51 (by omega) rfl dX0_isMet_152 ?_
                  refine s_aload_n C dX0_isMet_153 rfl ?_
                  refine s_iload C dX0_isMet_154 rfl ?_
                  refine s_iald (r := (τ.1 51 z211.toNatClampNeg)) C y51 (by omega) rfl dX0_isMet_156 ?_
                  refine s_callSI (st := [.int z213, .ref (ad 51)]) C (c_X0_combined l ad τ z10 ((τ.1 51 z215.toNatClampNeg)) ((τ.1 51 z211.toNatClampNeg)) ) cv_X0_44 rfl rfl ⟨by decide, by decide⟩ (Nat.le_of_ble_eq_true rfl) dX0_isMet_157 ?_
                  intro r216 τ217 h218
                  obtain ⟨eh218, h218⟩ := h218; replace eh218 := eh218.symm; subst eh218
                  refine s_iast C y51 (by omega) dX0_isMet_160 ?_
                  refine s_iinc C dX0_isMet_161 rfl (by decide) rfl (by decide) (by omega) (fun z219 tz219 => ?_)
                  show WP E ad 164 [some (.ref (ad 31)), some (.ref (ad 1)), some (.int a), some (.ref (ad 51)), some (.int z211), some (.int r187), some (.int z219), some (.int z10)] [] (sV τ 51 z213.toNatClampNeg r216)
                  refine s_goto (tgt := 9) C dX0_isMet_164 (by decide) ?_
                  refine wp_le (lv' := [some (.ref (ad 31)), some (.ref (ad 1)), some (.int a), some (.ref (ad 51)), some (.int z211), some (.int r187), some (.int z219), none]) ⟨rfl, ⟨rfl, ⟨rfl, ⟨rfl, ⟨rfl, ⟨rfl, ⟨rfl, trivial⟩⟩⟩⟩⟩⟩⟩ ?_
                  exact ih (sV τ 51 z213.toNatClampNeg r216) z211 r187 z219 (Fr.sV (Fr.tr Fr.rf (Fr.mo kF (by decide) (by decide))) (Or.inl (by decide))) hXτ (by omega) (by omega) (by omega)
              · refine s_aload_n C dX0_isMet_114 rfl ?_
                refine s_iload C dX0_isMet_115 rfl ?_
                refine s_iconst C dX0_isMet_117 (by decide) (fun z220 tz220 => ?_)
                refine s_isub C dX0_isMet_118 (by omega) (fun z221 tz221 => ?_)
                refine s_iconst C dX0_isMet_119 (by decide) (fun z222 tz222 => ?_)
                refine s_aload_n C dX0_isMet_120 rfl ?_
                refine s_iload C dX0_isMet_121 rfl ?_
                refine s_iconst C dX0_isMet_123 (by decide) (fun z223 tz223 => ?_)
                refine s_isub C dX0_isMet_124 (by omega) (fun z224 tz224 => ?_)
                refine s_iald (r := (τ.1 51 z224.toNatClampNeg)) C y51 (by omega) rfl dX0_isMet_125 ?_
                refine s_isubU C dX0_isMet_126 (fun z225 tz225 => ?_)
                refine s_iast C y51 (by omega) dX0_isMet_127 ?_
                refine s_goto (tgt := 161) C dX0_isMet_128 (by decide) ?_
                refine s_iinc C dX0_isMet_161 rfl (by decide) rfl (by decide) (by omega) (fun z226 tz226 => ?_)
                show WP E ad 164 [some (.ref (ad 31)), some (.ref (ad 1)), some (.int a), some (.ref (ad 51)), some (.int t), some (.int r187), some (.int z226), some (.int z10)] [] (sV τ 51 z221.toNatClampNeg z225)
                refine s_goto (tgt := 9) C dX0_isMet_164 (by decide) ?_
                refine wp_le (lv' := [some (.ref (ad 31)), some (.ref (ad 1)), some (.int a), some (.ref (ad 51)), some (.int t), some (.int r187), some (.int z226), none]) ⟨rfl, ⟨rfl, ⟨rfl, ⟨rfl, ⟨rfl, ⟨rfl, ⟨rfl, trivial⟩⟩⟩⟩⟩⟩⟩ ?_
                exact ih (sV τ 51 z221.toNatClampNeg z225) t r187 z226 (Fr.sV (Fr.tr Fr.rf (Fr.mo kF (by decide) (by decide))) (Or.inl (by decide))) hXτ (by omega) (by omega) (by omega)
          · refine s_iload C dX0_isMet_57 rfl ?_
            refine s_aload_n C dX0_isMet_59 rfl ?_
            refine s_alen0 C y51 (by omega) dX0_isMet_60 (fun z227 tz227 => ?_)
            refine s_icmp_ge (tgt := 101) C dX0_isMet_61 (by decide) (fun q228 => ?_) (fun q228 => ?_)
            · refine s_iload C dX0_isMet_101 rfl ?_
              refine s_bipush C dX0_isMet_103 (by decide) (fun z229 tz229 => ?_)
              refine s_icmp_ne (tgt := 131) C dX0_isMet_105 (by decide) (fun q230 => ?_) (fun q230 => ?_)
              · refine s_iload C dX0_isMet_131 rfl ?_
                refine s_iconst C dX0_isMet_133 (by decide) (fun z231 tz231 => ?_)
                refine s_icmp_lt (tgt := 161) C dX0_isMet_134 (by decide) (fun q232 => ?_) (fun q232 => ?_)
                · refine s_iinc C dX0_isMet_161 rfl (by decide) rfl (by decide) (by omega) (fun z233 tz233 => ?_)
                  show WP E ad 164 [some (.ref (ad 31)), some (.ref (ad 1)), some (.int a), some (.ref (ad 51)), some (.int t), some (.int r187), some (.int z233), some (.int z10)] [] τ
                  refine s_goto (tgt := 9) C dX0_isMet_164 (by decide) ?_
                  refine wp_le (lv' := [some (.ref (ad 31)), some (.ref (ad 1)), some (.int a), some (.ref (ad 51)), some (.int t), some (.int r187), some (.int z233), none]) ⟨rfl, ⟨rfl, ⟨rfl, ⟨rfl, ⟨rfl, ⟨rfl, ⟨rfl, trivial⟩⟩⟩⟩⟩⟩⟩ ?_
                  exact ih τ t r187 z233 (Fr.tr Fr.rf (Fr.mo kF (by decide) (by decide))) hXτ (by omega) (by omega) (by omega)
                · refine s_iinc C dX0_isMet_137 rfl (by decide) rfl (by decide) (by omega) (fun z234 tz234 => ?_)
                  show WP E ad 140 [some (.ref (ad 31)), some (.ref (ad 1)), some (.int a), some (.ref (ad 51)), some (.int z234), some (.int r187), some (.int z), some (.int z10)] [] τ
                  refine s_aload_n C dX0_isMet_140 rfl ?_
                  refine s_iload C dX0_isMet_141 rfl ?_
                  refine s_iconst C dX0_isMet_143 (by decide) (fun z235 tz235 => ?_)
                  refine s_isub C dX0_isMet_144 (by omega) (fun z236 tz236 => ?_)
                  refine s_iload C dX0_isMet_145 rfl ?_
                  refine s_aload_n C dX0_isMet_147 rfl ?_
                  refine s_iload C dX0_isMet_148 rfl ?_
                  refine s_iconst C dX0_isMet_150 (by decide) (fun z237 tz237 => ?_)
                  refine s_isub C dX0_isMet_151 (by omega) (fun z238 tz238 => ?_)
                  refine s_iald (r := (τ.1 51 z238.toNatClampNeg)) C y51 (by omega) rfl dX0_isMet_152 ?_
                  refine s_aload_n C dX0_isMet_153 rfl ?_
                  refine s_iload C dX0_isMet_154 rfl ?_
                  refine s_iald (r := (τ.1 51 z234.toNatClampNeg)) C y51 (by omega) rfl dX0_isMet_156 ?_
                  refine s_callSI (st := [.int z236, .ref (ad 51)]) C (c_X0_combined l ad τ z10 ((τ.1 51 z238.toNatClampNeg)) ((τ.1 51 z234.toNatClampNeg)) ) cv_X0_44 rfl rfl ⟨by decide, by decide⟩ (Nat.le_of_ble_eq_true rfl) dX0_isMet_157 ?_
                  intro r239 τ240 h241
                  obtain ⟨eh241, h241⟩ := h241; replace eh241 := eh241.symm; subst eh241
                  refine s_iast C y51 (by omega) dX0_isMet_160 ?_
                  refine s_iinc C dX0_isMet_161 rfl (by decide) rfl (by decide) (by omega) (fun z242 tz242 => ?_)
                  show WP E ad 164 [some (.ref (ad 31)), some (.ref (ad 1)), some (.int a), some (.ref (ad 51)), some (.int z234), some (.int r187), some (.int z242), some (.int z10)] [] (sV τ 51 z236.toNatClampNeg r239)
                  refine s_goto (tgt := 9) C dX0_isMet_164 (by decide) ?_
                  refine wp_le (lv' := [some (.ref (ad 31)), some (.ref (ad 1)), some (.int a), some (.ref (ad 51)), some (.int z234), some (.int r187), some (.int z242), none]) ⟨rfl, ⟨rfl, ⟨rfl, ⟨rfl, ⟨rfl, ⟨rfl, ⟨rfl, trivial⟩⟩⟩⟩⟩⟩⟩ ?_
                  exact ih (sV τ 51 z236.toNatClampNeg r239) z234 r187 z242 (Fr.sV (Fr.tr Fr.rf (Fr.mo kF (by decide) (by decide))) (Or.inl (by decide))) hXτ (by omega) (by omega) (by omega)
              · refine s_iload C dX0_isMet_108 rfl ?_
                refine s_iconst C dX0_isMet_110 (by decide) (fun z243 tz243 => ?_)
                refine s_icmp_lt (tgt := 131) C dX0_isMet_111 (by decide) (fun q244 => ?_) (fun q244 => ?_)
                · refine s_iload C dX0_isMet_131 rfl ?_
                  refine s_iconst C dX0_isMet_133 (by decide) (fun z245 tz245 => ?_)
                  refine s_icmp_lt (tgt := 161) C dX0_isMet_134 (by decide) (fun q246 => ?_) (fun q246 => ?_)
                  · refine s_iinc C dX0_isMet_161 rfl (by decide) rfl (by decide) (by omega) (fun z247 tz247 => ?_)
                    show WP E ad 164 [some (.ref (ad 31)), some (.ref (ad 1)), some (.int a), some (.ref (ad 51)), some (.int t), some (.int r187), some (.int z247), some (.int z10)] [] τ
                    refine s_goto (tgt := 9) C dX0_isMet_164 (by decide) ?_
                    refine wp_le (lv' := [some (.ref (ad 31)), some (.ref (ad 1)), some (.int a), some (.ref (ad 51)), some (.int t), some (.int r187), some (.int z247), none]) ⟨rfl, ⟨rfl, ⟨rfl, ⟨rfl, ⟨rfl, ⟨rfl, ⟨rfl, trivial⟩⟩⟩⟩⟩⟩⟩ ?_
                    exact ih τ t r187 z247 (Fr.tr Fr.rf (Fr.mo kF (by decide) (by decide))) hXτ (by omega) (by omega) (by omega)
                  · refine s_iinc C dX0_isMet_137 rfl (by decide) rfl (by decide) (by omega) (fun z248 tz248 => ?_)
                    show WP E ad 140 [some (.ref (ad 31)), some (.ref (ad 1)), some (.int a), some (.ref (ad 51)), some (.int z248), some (.int r187), some (.int z), some (.int z10)] [] τ
                    refine s_aload_n C dX0_isMet_140 rfl ?_
                    refine s_iload C dX0_isMet_141 rfl ?_
                    refine s_iconst C dX0_isMet_143 (by decide) (fun z249 tz249 => ?_)
                    refine s_isub C dX0_isMet_144 (by omega) (fun z250 tz250 => ?_)
                    refine s_iload C dX0_isMet_145 rfl ?_
                    refine s_aload_n C dX0_isMet_147 rfl ?_
                    refine s_iload C dX0_isMet_148 rfl ?_
                    refine s_iconst C dX0_isMet_150 (by decide) (fun z251 tz251 => ?_)
                    refine s_isub C dX0_isMet_151 (by omega) (fun z252 tz252 => ?_)
                    refine s_iald (r := (τ.1 51 z252.toNatClampNeg)) C y51 (by omega) rfl dX0_isMet_152 ?_
                    refine s_aload_n C dX0_isMet_153 rfl ?_
                    refine s_iload C dX0_isMet_154 rfl ?_
                    refine s_iald (r := (τ.1 51 z248.toNatClampNeg)) C y51 (by omega) rfl dX0_isMet_156 ?_
                    refine s_callSI (st := [.int z250, .ref (ad 51)]) C (c_X0_combined l ad τ z10 ((τ.1 51 z252.toNatClampNeg)) ((τ.1 51 z248.toNatClampNeg)) ) cv_X0_44 rfl rfl ⟨by decide, by decide⟩ (Nat.le_of_ble_eq_true rfl) dX0_isMet_157 ?_
                    intro r253 τ254 h255
                    obtain ⟨eh255, h255⟩ := h255; replace eh255 := eh255.symm; subst eh255
                    refine s_iast C y51 (by omega) dX0_isMet_160 ?_
                    refine s_iinc C dX0_isMet_161 rfl (by decide) rfl (by decide) (by omega) (fun z256 tz256 => ?_)
                    show WP E ad 164 [some (.ref (ad 31)), some (.ref (ad 1)), some (.int a), some (.ref (ad 51)), some (.int z248), some (.int r187), some (.int z256), some (.int z10)] [] (sV τ 51 z250.toNatClampNeg r253)
                    refine s_goto (tgt := 9) C dX0_isMet_164 (by decide) ?_
                    refine wp_le (lv' := [some (.ref (ad 31)), some (.ref (ad 1)), some (.int a), some (.ref (ad 51)), some (.int z248), some (.int r187), some (.int z256), none]) ⟨rfl, ⟨rfl, ⟨rfl, ⟨rfl, ⟨rfl, ⟨rfl, ⟨rfl, trivial⟩⟩⟩⟩⟩⟩⟩ ?_
                    exact ih (sV τ 51 z250.toNatClampNeg r253) z248 r187 z256 (Fr.sV (Fr.tr Fr.rf (Fr.mo kF (by decide) (by decide))) (Or.inl (by decide))) hXτ (by omega) (by omega) (by omega)
                · refine s_aload_n C dX0_isMet_114 rfl ?_
                  refine s_iload C dX0_isMet_115 rfl ?_
                  refine s_iconst C dX0_isMet_117 (by decide) (fun z257 tz257 => ?_)
                  refine s_isub C dX0_isMet_118 (by omega) (fun z258 tz258 => ?_)
                  refine s_iconst C dX0_isMet_119 (by decide) (fun z259 tz259 => ?_)
                  refine s_aload_n C dX0_isMet_120 rfl ?_
                  refine s_iload C dX0_isMet_121 rfl ?_
                  refine s_iconst C dX0_isMet_123 (by decide) (fun z260 tz260 => ?_)
                  refine s_isub C dX0_isMet_124 (by omega) (fun z261 tz261 => ?_)
                  refine s_iald (r := (τ.1 51 z261.toNatClampNeg)) C y51 (by omega) rfl dX0_isMet_125 ?_
                  refine s_isubU C dX0_isMet_126 (fun z262 tz262 => ?_)
                  refine s_iast C y51 (by omega) dX0_isMet_127 ?_
                  refine s_goto (tgt := 161) C dX0_isMet_128 (by decide) ?_
                  refine s_iinc C dX0_isMet_161 rfl (by decide) rfl (by decide) (by omega) (fun z263 tz263 => ?_)
                  show WP E ad 164 [some (.ref (ad 31)), some (.ref (ad 1)), some (.int a), some (.ref (ad 51)), some (.int t), some (.int r187), some (.int z263), some (.int z10)] [] (sV τ 51 z258.toNatClampNeg z262)
                  refine s_goto (tgt := 9) C dX0_isMet_164 (by decide) ?_
                  refine wp_le (lv' := [some (.ref (ad 31)), some (.ref (ad 1)), some (.int a), some (.ref (ad 51)), some (.int t), some (.int r187), some (.int z263), none]) ⟨rfl, ⟨rfl, ⟨rfl, ⟨rfl, ⟨rfl, ⟨rfl, ⟨rfl, trivial⟩⟩⟩⟩⟩⟩⟩ ?_
                  exact ih (sV τ 51 z258.toNatClampNeg z262) t r187 z263 (Fr.sV (Fr.tr Fr.rf (Fr.mo kF (by decide) (by decide))) (Or.inl (by decide))) hXτ (by omega) (by omega) (by omega)
            · refine s_aload_n C dX0_isMet_64 rfl ?_
              refine s_iload C dX0_isMet_65 rfl ?_
              refine s_iload C dX0_isMet_67 rfl ?_
              refine s_iconst C dX0_isMet_69 (by decide) (fun z264 tz264 => ?_)
              refine s_icmp_ne (tgt := 78) C dX0_isMet_70 (by decide) (fun q265 => ?_) (fun q265 => ?_)
              · refine s_aload_n C dX0_isMet_78 rfl ?_
                refine s_iload_n C dX0_isMet_79 rfl ?_
                refine s_iload C dX0_isMet_80 rfl ?_
                refine s_aload_n C dX0_isMet_82 rfl ?_
                refine s_getr (k := 2) (j := 43) C y31 fw_X0_19 rfl dX0_isMet_83 ?_
                refine s_iload C dX0_isMet_86 rfl ?_
                refine s_iald (r := (τ.1 43 z.toNatClampNeg)) C y43 (by omega) rfl dX0_isMet_88 ?_
                refine s_iconst C dX0_isMet_89 (by decide) (fun z266 tz266 => ?_)
                skip
                refine s_ishr C dX0_isMet_90 (fun z267 tz267 => ?_)
                refine s_callSI (st := [.int t, .ref (ad 51)]) C (c_X0_unit l ad τ a z10 z267 (by omega) hg (fun h => by have hp := hXτ.C0.2.2 z.toNatClampNeg; unfold PV at hp; rw [show pOp (τ.1 43 z.toNatClampNeg) = z10 by rw [tz10, ceq (n := 15) tz9]; rfl, show pNm (τ.1 43 z.toNatClampNeg) = z267 by rw [tz267, ceq (n := 4) tz266]; rfl] at hp; exact hp h)) cv_X0_40 rfl rfl ⟨by decide, by decide⟩ (Nat.le_of_ble_eq_true rfl) dX0_isMet_91 ?_
                intro r268 τ269 h270
                obtain ⟨eh270, h270⟩ := h270; replace eh270 := eh270.symm; subst eh270
                refine s_iast C y51 (by omega) dX0_isMet_94 ?_
                refine s_iinc C dX0_isMet_95 rfl (by decide) rfl (by decide) (by omega) (fun z271 tz271 => ?_)
                show WP E ad 98 [some (.ref (ad 31)), some (.ref (ad 1)), some (.int a), some (.ref (ad 51)), some (.int z271), some (.int r187), some (.int z), some (.int z10)] [] (sV τ 51 t.toNatClampNeg r268)
                refine s_goto (tgt := 161) C dX0_isMet_98 (by decide) ?_
                refine s_iinc C dX0_isMet_161 rfl (by decide) rfl (by decide) (by omega) (fun z272 tz272 => ?_)
                show WP E ad 164 [some (.ref (ad 31)), some (.ref (ad 1)), some (.int a), some (.ref (ad 51)), some (.int z271), some (.int r187), some (.int z272), some (.int z10)] [] (sV τ 51 t.toNatClampNeg r268)
                refine s_goto (tgt := 9) C dX0_isMet_164 (by decide) ?_
                refine wp_le (lv' := [some (.ref (ad 31)), some (.ref (ad 1)), some (.int a), some (.ref (ad 51)), some (.int z271), some (.int r187), some (.int z272), none]) ⟨rfl, ⟨rfl, ⟨rfl, ⟨rfl, ⟨rfl, ⟨rfl, ⟨rfl, trivial⟩⟩⟩⟩⟩⟩⟩ ?_
                exact ih (sV τ 51 t.toNatClampNeg r268) z271 r187 z272 (Fr.sV (Fr.tr Fr.rf (Fr.mo kF (by decide) (by decide))) (Or.inl (by decide))) hXτ (by omega) (by omega) (by omega)
              · refine s_iload C dX0_isMet_73 rfl ?_
                refine s_goto (tgt := 94) C dX0_isMet_75 (by decide) ?_
                refine s_iast C y51 (by omega) dX0_isMet_94 ?_
                refine s_iinc C dX0_isMet_95 rfl (by decide) rfl (by decide) (by omega) (fun z273 tz273 => ?_)
                show WP E ad 98 [some (.ref (ad 31)), some (.ref (ad 1)), some (.int a), some (.ref (ad 51)), some (.int z273), some (.int r187), some (.int z), some (.int z10)] [] (sV τ 51 t.toNatClampNeg r187)
                refine s_goto (tgt := 161) C dX0_isMet_98 (by decide) ?_
                refine s_iinc C dX0_isMet_161 rfl (by decide) rfl (by decide) (by omega) (fun z274 tz274 => ?_)
                show WP E ad 164 [some (.ref (ad 31)), some (.ref (ad 1)), some (.int a), some (.ref (ad 51)), some (.int z273), some (.int r187), some (.int z274), some (.int z10)] [] (sV τ 51 t.toNatClampNeg r187)
                refine s_goto (tgt := 9) C dX0_isMet_164 (by decide) ?_
                refine wp_le (lv' := [some (.ref (ad 31)), some (.ref (ad 1)), some (.int a), some (.ref (ad 51)), some (.int z273), some (.int r187), some (.int z274), none]) ⟨rfl, ⟨rfl, ⟨rfl, ⟨rfl, ⟨rfl, ⟨rfl, ⟨rfl, trivial⟩⟩⟩⟩⟩⟩⟩ ?_
                exact ih (sV τ 51 t.toNatClampNeg r187) z273 r187 z274 (Fr.sV (Fr.tr Fr.rf (Fr.mo kF (by decide) (by decide))) (Or.inl (by decide))) hXτ (by omega) (by omega) (by omega)
set_option maxRecDepth 100000 in
theorem c_X0_isMet_0 (l : Launch) (ad : Nat → Nat) (σ : Sg) (a : Int32) (hX : IX σ.1) (hg : GR a) : Mt l yX0_isMet cX0_isMet 8 (some .boolean) 3 ad σ [.ref (ad 31), .ref (ad 1), .int a, .ref (ad 51)] (oI (fun r τ => Fr [51] [] σ τ ∧ (r.toInt = 0 ∨ r.toInt = 1))) := by
  refine Mt_intro (by decide +kernel) (by simp [lg_sl, Value.category]) (fun E C X => ?_)
  show WP E ad 0 [some (.ref (ad 31)), some (.ref (ad 1)), some (.int a), some (.ref (ad 51)), none, none, none, none] [] σ
  refine s_iconst C dX0_isMet_0 (by decide) (fun z1 tz1 => ?_)
  refine s_istore C dX0_isMet_1 (by decide) (Nat.le_of_ble_eq_true rfl) rfl ?_
  show WP E ad 3 [some (.ref (ad 31)), some (.ref (ad 1)), some (.int a), some (.ref (ad 51)), some (.int z1), none, none, none] [] σ
  refine s_iconst C dX0_isMet_3 (by decide) (fun z2 tz2 => ?_)
  refine s_istore C dX0_isMet_4 (by decide) (Nat.le_of_ble_eq_true rfl) rfl ?_
  show WP E ad 6 [some (.ref (ad 31)), some (.ref (ad 1)), some (.int a), some (.ref (ad 51)), some (.int z1), some (.int z2), none, none] [] σ
  refine s_iconst C dX0_isMet_6 (by decide) (fun z3 tz3 => ?_)
  refine s_istore C dX0_isMet_7 (by decide) (Nat.le_of_ble_eq_true rfl) rfl ?_
  show WP E ad 9 [some (.ref (ad 31)), some (.ref (ad 1)), some (.int a), some (.ref (ad 51)), some (.int z1), some (.int z2), some (.int z3), none] [] σ
  exact L_isMet_0 l ad E σ a hg C X 100 σ z1 z2 z3 Fr.rf hX (by omega) (by omega) (by omega)
set_option maxRecDepth 100000 in
theorem L_isMet_1 (l : Launch) (ad : Nat → Nat) (E : Ev) (σ : Sg) (a : Int32) (hg : GR a) (C : Cx E l (rmk 3) 8 cX0_isMet RX0) (X : Rx E ad (some .boolean) (oI (fun r τ => Fr [54] [] σ τ ∧ (r.toInt = 0 ∨ r.toInt = 1))))  : ∀ (n : Nat) (τ : Sg) (t : Int32) (u : Int32) (z : Int32), (Fr [54] [] σ τ) → (IX τ.1) → (0 ≤ t.toInt ∧ t.toInt ≤ 60) → (0 ≤ z.toInt) → (60 - z.toInt).toNat < n → WP E ad 9 [some (.ref (ad 32)), some (.ref (ad 1)), some (.int a), some (.ref (ad 54)), some (.int t), some (.int u), some (.int z), none] [] τ := by
  intro n
  induction n with
  | zero => intro τ t u z kF hXτ ht h0 hm9; exact absurd hm9 (Nat.not_lt_zero _)
  | succ n ih =>
    intro τ t u z kF hXτ ht h0 hm9
    have hsz := hXτ.C1.2.1
    have hpr := hXτ.pr
    refine s_iload C dX0_isMet_9 rfl ?_
    refine s_aload_n C dX0_isMet_11 rfl ?_
    refine s_get (k := 1) (x := (τ.1 32 1)) C y32 fw_X0_15 rfl rfl dX0_isMet_12 ?_
    refine s_icmp_ge (tgt := 167) C dX0_isMet_15 (by decide) (fun q1 => ?_) (fun q1 => ?_)
    · refine s_iload C dX0_isMet_167 rfl ?_
      refine s_if_le (tgt := 183) C dX0_isMet_169 (by decide) (fun q2 => ?_) (fun q2 => ?_)
      · refine s_iconst C dX0_isMet_183 (by decide) (fun z3 tz3 => ?_)
        exact s_zret C (by omega) X dX0_isMet_184 ⟨kF, by omega⟩
      · refine s_aload_n C dX0_isMet_172 rfl ?_
        refine s_iconst C dX0_isMet_173 (by decide) (fun z4 tz4 => ?_)
        refine s_iald (r := (τ.1 54 z4.toNatClampNeg)) C y54 (by omega) rfl dX0_isMet_174 ?_
        refine s_iconst C dX0_isMet_175 (by decide) (fun z5 tz5 => ?_)
        refine s_icmp_ne (tgt := 183) C dX0_isMet_176 (by decide) (fun q6 => ?_) (fun q6 => ?_)
        · refine s_iconst C dX0_isMet_183 (by decide) (fun z7 tz7 => ?_)
          exact s_zret C (by omega) X dX0_isMet_184 ⟨kF, by omega⟩
        · refine s_iconst C dX0_isMet_179 (by decide) (fun z8 tz8 => ?_)
          refine s_goto (tgt := 184) C dX0_isMet_180 (by decide) ?_
          exact s_zret C (by omega) X dX0_isMet_184 ⟨kF, by omega⟩
    · refine s_aload_n C dX0_isMet_18 rfl ?_
      refine s_getr (k := 2) (j := 44) C y32 fw_X0_19 rfl dX0_isMet_19 ?_
      refine s_iload C dX0_isMet_22 rfl ?_
      refine s_iald (r := (τ.1 44 z.toNatClampNeg)) C y44 (by omega) rfl dX0_isMet_24 ?_
      refine s_bipush C dX0_isMet_25 (by decide) (fun z9 tz9 => ?_)
      skip
      refine s_iand C dX0_isMet_27 (fun z10 tz10 => ?_)
      refine s_istore C dX0_isMet_28 (by decide) (Nat.le_of_ble_eq_true rfl) rfl ?_
      show WP E ad 30 [some (.ref (ad 32)), some (.ref (ad 1)), some (.int a), some (.ref (ad 54)), some (.int t), some (.int u), some (.int z), some (.int z10)] [] τ
      refine s_iload C dX0_isMet_30 rfl ?_
      refine s_iconst C dX0_isMet_32 (by decide) (fun z11 tz11 => ?_)
      refine s_icmp_ne (tgt := 51) C dX0_isMet_33 (by decide) (fun q12 => ?_) (fun q12 => ?_)
      · refine s_iload C dX0_isMet_51 rfl ?_
        refine s_iconst C dX0_isMet_53 (by decide) (fun z13 tz13 => ?_)
        refine s_icmp_gt (tgt := 101) C dX0_isMet_54 (by decide) (fun q14 => ?_) (fun q14 => ?_)
        · refine s_iload C dX0_isMet_101 rfl ?_
          refine s_bipush C dX0_isMet_103 (by decide) (fun z15 tz15 => ?_)
          refine s_icmp_ne (tgt := 131) C dX0_isMet_105 (by decide) (fun q16 => ?_) (fun q16 => ?_)
          · refine s_iload C dX0_isMet_131 rfl ?_
            refine s_iconst C dX0_isMet_133 (by decide) (fun z17 tz17 => ?_)
            refine s_icmp_lt (tgt := 161) C dX0_isMet_134 (by decide) (fun q18 => ?_) (fun q18 => ?_)
            · refine s_iinc C dX0_isMet_161 rfl (by decide) rfl (by decide) (by omega) (fun z19 tz19 => ?_)
              show WP E ad 164 [some (.ref (ad 32)), some (.ref (ad 1)), some (.int a), some (.ref (ad 54)), some (.int t), some (.int u), some (.int z19), some (.int z10)] [] τ
              refine s_goto (tgt := 9) C dX0_isMet_164 (by decide) ?_
              refine wp_le (lv' := [some (.ref (ad 32)), some (.ref (ad 1)), some (.int a), some (.ref (ad 54)), some (.int t), some (.int u), some (.int z19), none]) ⟨rfl, ⟨rfl, ⟨rfl, ⟨rfl, ⟨rfl, ⟨rfl, ⟨rfl, trivial⟩⟩⟩⟩⟩⟩⟩ ?_
              exact ih τ t u z19 (Fr.tr Fr.rf (Fr.mo kF (by decide) (by decide))) hXτ (by omega) (by omega) (by omega)
            · refine s_iinc C dX0_isMet_137 rfl (by decide) rfl (by decide) (by omega) (fun z20 tz20 => ?_)
              show WP E ad 140 [some (.ref (ad 32)), some (.ref (ad 1)), some (.int a), some (.ref (ad 54)), some (.int z20), some (.int u), some (.int z), some (.int z10)] [] τ
              refine s_aload_n C dX0_isMet_140 rfl ?_
              refine s_iload C dX0_isMet_141 rfl ?_
              refine s_iconst C dX0_isMet_143 (by decide) (fun z21 tz21 => ?_)
              refine s_isub C dX0_isMet_144 (by omega) (fun z22 tz22 => ?_)
              refine s_iload C dX0_isMet_145 rfl ?_
              refine s_aload_n C dX0_isMet_147 rfl ?_
              refine s_iload C dX0_isMet_148 rfl ?_
              refine s_iconst C dX0_isMet_150 (by decide) (fun z23 tz23 => ?_)
              refine s_isub C dX0_isMet_151 (by omega) (fun z24 tz24 => ?_)
              refine s_iald (r := (τ.1 54 z24.toNatClampNeg)) C y54 (by omega) rfl dX0_isMet_152 ?_
              refine s_aload_n C dX0_isMet_153 rfl ?_
              refine s_iload C dX0_isMet_154 rfl ?_
              refine s_iald (r := (τ.1 54 z20.toNatClampNeg)) C y54 (by omega) rfl dX0_isMet_156 ?_
              refine s_callSI (st := [.int z22, .ref (ad 54)]) C (c_X0_combined l ad τ z10 ((τ.1 54 z24.toNatClampNeg)) ((τ.1 54 z20.toNatClampNeg)) ) cv_X0_44 rfl rfl ⟨by decide, by decide⟩ (Nat.le_of_ble_eq_true rfl) dX0_isMet_157 ?_
              intro r25 τ26 h27
              obtain ⟨eh27, h27⟩ := h27; replace eh27 := eh27.symm; subst eh27
              refine s_iast C y54 (by omega) dX0_isMet_160 ?_
              refine s_iinc C dX0_isMet_161 rfl (by decide) rfl (by decide) (by omega) (fun z28 tz28 => ?_)
              show WP E ad 164 [some (.ref (ad 32)), some (.ref (ad 1)), some (.int a), some (.ref (ad 54)), some (.int z20), some (.int u), some (.int z28), some (.int z10)] [] (sV τ 54 z22.toNatClampNeg r25)
              refine s_goto (tgt := 9) C dX0_isMet_164 (by decide) ?_
              refine wp_le (lv' := [some (.ref (ad 32)), some (.ref (ad 1)), some (.int a), some (.ref (ad 54)), some (.int z20), some (.int u), some (.int z28), none]) ⟨rfl, ⟨rfl, ⟨rfl, ⟨rfl, ⟨rfl, ⟨rfl, ⟨rfl, trivial⟩⟩⟩⟩⟩⟩⟩ ?_
              exact ih (sV τ 54 z22.toNatClampNeg r25) z20 u z28 (Fr.sV (Fr.tr Fr.rf (Fr.mo kF (by decide) (by decide))) (Or.inl (by decide))) hXτ (by omega) (by omega) (by omega)
          · refine s_iload C dX0_isMet_108 rfl ?_
            refine s_iconst C dX0_isMet_110 (by decide) (fun z29 tz29 => ?_)
            refine s_icmp_lt (tgt := 131) C dX0_isMet_111 (by decide) (fun q30 => ?_) (fun q30 => ?_)
            · refine s_iload C dX0_isMet_131 rfl ?_
              refine s_iconst C dX0_isMet_133 (by decide) (fun z31 tz31 => ?_)
              refine s_icmp_lt (tgt := 161) C dX0_isMet_134 (by decide) (fun q32 => ?_) (fun q32 => ?_)
              · refine s_iinc C dX0_isMet_161 rfl (by decide) rfl (by decide) (by omega) (fun z33 tz33 => ?_)
                show WP E ad 164 [some (.ref (ad 32)), some (.ref (ad 1)), some (.int a), some (.ref (ad 54)), some (.int t), some (.int u), some (.int z33), some (.int z10)] [] τ
                refine s_goto (tgt := 9) C dX0_isMet_164 (by decide) ?_
                refine wp_le (lv' := [some (.ref (ad 32)), some (.ref (ad 1)), some (.int a), some (.ref (ad 54)), some (.int t), some (.int u), some (.int z33), none]) ⟨rfl, ⟨rfl, ⟨rfl, ⟨rfl, ⟨rfl, ⟨rfl, ⟨rfl, trivial⟩⟩⟩⟩⟩⟩⟩ ?_
                exact ih τ t u z33 (Fr.tr Fr.rf (Fr.mo kF (by decide) (by decide))) hXτ (by omega) (by omega) (by omega)
              · refine s_iinc C dX0_isMet_137 rfl (by decide) rfl (by decide) (by omega) (fun z34 tz34 => ?_)
                show WP E ad 140 [some (.ref (ad 32)), some (.ref (ad 1)), some (.int a), some (.ref (ad 54)), some (.int z34), some (.int u), some (.int z), some (.int z10)] [] τ
                refine s_aload_n C dX0_isMet_140 rfl ?_
                refine s_iload C dX0_isMet_141 rfl ?_
                refine s_iconst C dX0_isMet_143 (by decide) (fun z35 tz35 => ?_)
                refine s_isub C dX0_isMet_144 (by omega) (fun z36 tz36 => ?_)
                refine s_iload C dX0_isMet_145 rfl ?_
                refine s_aload_n C dX0_isMet_147 rfl ?_
                refine s_iload C dX0_isMet_148 rfl ?_
                refine s_iconst C dX0_isMet_150 (by decide) (fun z37 tz37 => ?_)
                refine s_isub C dX0_isMet_151 (by omega) (fun z38 tz38 => ?_)
                refine s_iald (r := (τ.1 54 z38.toNatClampNeg)) C y54 (by omega) rfl dX0_isMet_152 ?_
                refine s_aload_n C dX0_isMet_153 rfl ?_
                refine s_iload C dX0_isMet_154 rfl ?_
                refine s_iald (r := (τ.1 54 z34.toNatClampNeg)) C y54 (by omega) rfl dX0_isMet_156 ?_
                refine s_callSI (st := [.int z36, .ref (ad 54)]) C (c_X0_combined l ad τ z10 ((τ.1 54 z38.toNatClampNeg)) ((τ.1 54 z34.toNatClampNeg)) ) cv_X0_44 rfl rfl ⟨by decide, by decide⟩ (Nat.le_of_ble_eq_true rfl) dX0_isMet_157 ?_
                intro r39 τ40 h41
                obtain ⟨eh41, h41⟩ := h41; replace eh41 := eh41.symm; subst eh41
                refine s_iast C y54 (by omega) dX0_isMet_160 ?_
                refine s_iinc C dX0_isMet_161 rfl (by decide) rfl (by decide) (by omega) (fun z42 tz42 => ?_)
                show WP E ad 164 [some (.ref (ad 32)), some (.ref (ad 1)), some (.int a), some (.ref (ad 54)), some (.int z34), some (.int u), some (.int z42), some (.int z10)] [] (sV τ 54 z36.toNatClampNeg r39)
                refine s_goto (tgt := 9) C dX0_isMet_164 (by decide) ?_
                refine wp_le (lv' := [some (.ref (ad 32)), some (.ref (ad 1)), some (.int a), some (.ref (ad 54)), some (.int z34), some (.int u), some (.int z42), none]) ⟨rfl, ⟨rfl, ⟨rfl, ⟨rfl, ⟨rfl, ⟨rfl, ⟨rfl, trivial⟩⟩⟩⟩⟩⟩⟩ ?_
                exact ih (sV τ 54 z36.toNatClampNeg r39) z34 u z42 (Fr.sV (Fr.tr Fr.rf (Fr.mo kF (by decide) (by decide))) (Or.inl (by decide))) hXτ (by omega) (by omega) (by omega)
            · refine s_aload_n C dX0_isMet_114 rfl ?_
              refine s_iload C dX0_isMet_115 rfl ?_
              refine s_iconst C dX0_isMet_117 (by decide) (fun z43 tz43 => ?_)
              refine s_isub C dX0_isMet_118 (by omega) (fun z44 tz44 => ?_)
              refine s_iconst C dX0_isMet_119 (by decide) (fun z45 tz45 => ?_)
              refine s_aload_n C dX0_isMet_120 rfl ?_
              refine s_iload C dX0_isMet_121 rfl ?_
              refine s_iconst C dX0_isMet_123 (by decide) (fun z46 tz46 => ?_)
              refine s_isub C dX0_isMet_124 (by omega) (fun z47 tz47 => ?_)
              refine s_iald (r := (τ.1 54 z47.toNatClampNeg)) C y54 (by omega) rfl dX0_isMet_125 ?_
              refine s_isubU C dX0_isMet_126 (fun z48 tz48 => ?_)
              refine s_iast C y54 (by omega) dX0_isMet_127 ?_
              refine s_goto (tgt := 161) C dX0_isMet_128 (by decide) ?_
              refine s_iinc C dX0_isMet_161 rfl (by decide) rfl (by decide) (by omega) (fun z49 tz49 => ?_)
              show WP E ad 164 [some (.ref (ad 32)), some (.ref (ad 1)), some (.int a), some (.ref (ad 54)), some (.int t), some (.int u), some (.int z49), some (.int z10)] [] (sV τ 54 z44.toNatClampNeg z48)
              refine s_goto (tgt := 9) C dX0_isMet_164 (by decide) ?_
              refine wp_le (lv' := [some (.ref (ad 32)), some (.ref (ad 1)), some (.int a), some (.ref (ad 54)), some (.int t), some (.int u), some (.int z49), none]) ⟨rfl, ⟨rfl, ⟨rfl, ⟨rfl, ⟨rfl, ⟨rfl, ⟨rfl, trivial⟩⟩⟩⟩⟩⟩⟩ ?_
              exact ih (sV τ 54 z44.toNatClampNeg z48) t u z49 (Fr.sV (Fr.tr Fr.rf (Fr.mo kF (by decide) (by decide))) (Or.inl (by decide))) hXτ (by omega) (by omega) (by omega)
        · refine s_iload C dX0_isMet_57 rfl ?_
          refine s_aload_n C dX0_isMet_59 rfl ?_
          refine s_alen0 C y54 (by omega) dX0_isMet_60 (fun z50 tz50 => ?_)
          refine s_icmp_ge (tgt := 101) C dX0_isMet_61 (by decide) (fun q51 => ?_) (fun q51 => ?_)
          · refine s_iload C dX0_isMet_101 rfl ?_
            refine s_bipush C dX0_isMet_103 (by decide) (fun z52 tz52 => ?_)
            refine s_icmp_ne (tgt := 131) C dX0_isMet_105 (by decide) (fun q53 => ?_) (fun q53 => ?_)
            · refine s_iload C dX0_isMet_131 rfl ?_
              refine s_iconst C dX0_isMet_133 (by decide) (fun z54 tz54 => ?_)
              refine s_icmp_lt (tgt := 161) C dX0_isMet_134 (by decide) (fun q55 => ?_) (fun q55 => ?_)
              · refine s_iinc C dX0_isMet_161 rfl (by decide) rfl (by decide) (by omega) (fun z56 tz56 => ?_)
                show WP E ad 164 [some (.ref (ad 32)), some (.ref (ad 1)), some (.int a), some (.ref (ad 54)), some (.int t), some (.int u), some (.int z56), some (.int z10)] [] τ
                refine s_goto (tgt := 9) C dX0_isMet_164 (by decide) ?_
                refine wp_le (lv' := [some (.ref (ad 32)), some (.ref (ad 1)), some (.int a), some (.ref (ad 54)), some (.int t), some (.int u), some (.int z56), none]) ⟨rfl, ⟨rfl, ⟨rfl, ⟨rfl, ⟨rfl, ⟨rfl, ⟨rfl, trivial⟩⟩⟩⟩⟩⟩⟩ ?_
                exact ih τ t u z56 (Fr.tr Fr.rf (Fr.mo kF (by decide) (by decide))) hXτ (by omega) (by omega) (by omega)
              · refine s_iinc C dX0_isMet_137 rfl (by decide) rfl (by decide) (by omega) (fun z57 tz57 => ?_)
                show WP E ad 140 [some (.ref (ad 32)), some (.ref (ad 1)), some (.int a), some (.ref (ad 54)), some (.int z57), some (.int u), some (.int z), some (.int z10)] [] τ
                refine s_aload_n C dX0_isMet_140 rfl ?_
                refine s_iload C dX0_isMet_141 rfl ?_
                refine s_iconst C dX0_isMet_143 (by decide) (fun z58 tz58 => ?_)
                refine s_isub C dX0_isMet_144 (by omega) (fun z59 tz59 => ?_)
                refine s_iload C dX0_isMet_145 rfl ?_
                refine s_aload_n C dX0_isMet_147 rfl ?_
                refine s_iload C dX0_isMet_148 rfl ?_
                refine s_iconst C dX0_isMet_150 (by decide) (fun z60 tz60 => ?_)
                refine s_isub C dX0_isMet_151 (by omega) (fun z61 tz61 => ?_)
                refine s_iald (r := (τ.1 54 z61.toNatClampNeg)) C y54 (by omega) rfl dX0_isMet_152 ?_
                refine s_aload_n C dX0_isMet_153 rfl ?_
                refine s_iload C dX0_isMet_154 rfl ?_
                refine s_iald (r := (τ.1 54 z57.toNatClampNeg)) C y54 (by omega) rfl dX0_isMet_156 ?_
                refine s_callSI (st := [.int z59, .ref (ad 54)]) C (c_X0_combined l ad τ z10 ((τ.1 54 z61.toNatClampNeg)) ((τ.1 54 z57.toNatClampNeg)) ) cv_X0_44 rfl rfl ⟨by decide, by decide⟩ (Nat.le_of_ble_eq_true rfl) dX0_isMet_157 ?_
                intro r62 τ63 h64
                obtain ⟨eh64, h64⟩ := h64; replace eh64 := eh64.symm; subst eh64
                refine s_iast C y54 (by omega) dX0_isMet_160 ?_
                refine s_iinc C dX0_isMet_161 rfl (by decide) rfl (by decide) (by omega) (fun z65 tz65 => ?_)
                show WP E ad 164 [some (.ref (ad 32)), some (.ref (ad 1)), some (.int a), some (.ref (ad 54)), some (.int z57), some (.int u), some (.int z65), some (.int z10)] [] (sV τ 54 z59.toNatClampNeg r62)
                refine s_goto (tgt := 9) C dX0_isMet_164 (by decide) ?_
                refine wp_le (lv' := [some (.ref (ad 32)), some (.ref (ad 1)), some (.int a), some (.ref (ad 54)), some (.int z57), some (.int u), some (.int z65), none]) ⟨rfl, ⟨rfl, ⟨rfl, ⟨rfl, ⟨rfl, ⟨rfl, ⟨rfl, trivial⟩⟩⟩⟩⟩⟩⟩ ?_
                exact ih (sV τ 54 z59.toNatClampNeg r62) z57 u z65 (Fr.sV (Fr.tr Fr.rf (Fr.mo kF (by decide) (by decide))) (Or.inl (by decide))) hXτ (by omega) (by omega) (by omega)
            · refine s_iload C dX0_isMet_108 rfl ?_
              refine s_iconst C dX0_isMet_110 (by decide) (fun z66 tz66 => ?_)
              refine s_icmp_lt (tgt := 131) C dX0_isMet_111 (by decide) (fun q67 => ?_) (fun q67 => ?_)
              · refine s_iload C dX0_isMet_131 rfl ?_
                refine s_iconst C dX0_isMet_133 (by decide) (fun z68 tz68 => ?_)
                refine s_icmp_lt (tgt := 161) C dX0_isMet_134 (by decide) (fun q69 => ?_) (fun q69 => ?_)
                · refine s_iinc C dX0_isMet_161 rfl (by decide) rfl (by decide) (by omega) (fun z70 tz70 => ?_)
                  show WP E ad 164 [some (.ref (ad 32)), some (.ref (ad 1)), some (.int a), some (.ref (ad 54)), some (.int t), some (.int u), some (.int z70), some (.int z10)] [] τ
                  refine s_goto (tgt := 9) C dX0_isMet_164 (by decide) ?_
                  refine wp_le (lv' := [some (.ref (ad 32)), some (.ref (ad 1)), some (.int a), some (.ref (ad 54)), some (.int t), some (.int u), some (.int z70), none]) ⟨rfl, ⟨rfl, ⟨rfl, ⟨rfl, ⟨rfl, ⟨rfl, ⟨rfl, trivial⟩⟩⟩⟩⟩⟩⟩ ?_
                  exact ih τ t u z70 (Fr.tr Fr.rf (Fr.mo kF (by decide) (by decide))) hXτ (by omega) (by omega) (by omega)
                · refine s_iinc C dX0_isMet_137 rfl (by decide) rfl (by decide) (by omega) (fun z71 tz71 => ?_)
                  show WP E ad 140 [some (.ref (ad 32)), some (.ref (ad 1)), some (.int a), some (.ref (ad 54)), some (.int z71), some (.int u), some (.int z), some (.int z10)] [] τ
                  refine s_aload_n C dX0_isMet_140 rfl ?_
                  refine s_iload C dX0_isMet_141 rfl ?_
                  refine s_iconst C dX0_isMet_143 (by decide) (fun z72 tz72 => ?_)
                  refine s_isub C dX0_isMet_144 (by omega) (fun z73 tz73 => ?_)
                  refine s_iload C dX0_isMet_145 rfl ?_
                  refine s_aload_n C dX0_isMet_147 rfl ?_
                  refine s_iload C dX0_isMet_148 rfl ?_
                  refine s_iconst C dX0_isMet_150 (by decide) (fun z74 tz74 => ?_)
                  refine s_isub C dX0_isMet_151 (by omega) (fun z75 tz75 => ?_)
                  refine s_iald (r := (τ.1 54 z75.toNatClampNeg)) C y54 (by omega) rfl dX0_isMet_152 ?_
                  refine s_aload_n C dX0_isMet_153 rfl ?_
                  refine s_iload C dX0_isMet_154 rfl ?_
                  refine s_iald (r := (τ.1 54 z71.toNatClampNeg)) C y54 (by omega) rfl dX0_isMet_156 ?_
                  refine s_callSI (st := [.int z73, .ref (ad 54)]) C (c_X0_combined l ad τ z10 ((τ.1 54 z75.toNatClampNeg)) ((τ.1 54 z71.toNatClampNeg)) ) cv_X0_44 rfl rfl ⟨by decide, by decide⟩ (Nat.le_of_ble_eq_true rfl) dX0_isMet_157 ?_
                  intro r76 τ77 h78
                  obtain ⟨eh78, h78⟩ := h78; replace eh78 := eh78.symm; subst eh78
                  refine s_iast C y54 (by omega) dX0_isMet_160 ?_
                  refine s_iinc C dX0_isMet_161 rfl (by decide) rfl (by decide) (by omega) (fun z79 tz79 => ?_)
                  show WP E ad 164 [some (.ref (ad 32)), some (.ref (ad 1)), some (.int a), some (.ref (ad 54)), some (.int z71), some (.int u), some (.int z79), some (.int z10)] [] (sV τ 54 z73.toNatClampNeg r76)
                  refine s_goto (tgt := 9) C dX0_isMet_164 (by decide) ?_
                  refine wp_le (lv' := [some (.ref (ad 32)), some (.ref (ad 1)), some (.int a), some (.ref (ad 54)), some (.int z71), some (.int u), some (.int z79), none]) ⟨rfl, ⟨rfl, ⟨rfl, ⟨rfl, ⟨rfl, ⟨rfl, ⟨rfl, trivial⟩⟩⟩⟩⟩⟩⟩ ?_
                  exact ih (sV τ 54 z73.toNatClampNeg r76) z71 u z79 (Fr.sV (Fr.tr Fr.rf (Fr.mo kF (by decide) (by decide))) (Or.inl (by decide))) hXτ (by omega) (by omega) (by omega)
              · refine s_aload_n C dX0_isMet_114 rfl ?_
                refine s_iload C dX0_isMet_115 rfl ?_
                refine s_iconst C dX0_isMet_117 (by decide) (fun z80 tz80 => ?_)
                refine s_isub C dX0_isMet_118 (by omega) (fun z81 tz81 => ?_)
                refine s_iconst C dX0_isMet_119 (by decide) (fun z82 tz82 => ?_)
                refine s_aload_n C dX0_isMet_120 rfl ?_
                refine s_iload C dX0_isMet_121 rfl ?_
                refine s_iconst C dX0_isMet_123 (by decide) (fun z83 tz83 => ?_)
                refine s_isub C dX0_isMet_124 (by omega) (fun z84 tz84 => ?_)
                refine s_iald (r := (τ.1 54 z84.toNatClampNeg)) C y54 (by omega) rfl dX0_isMet_125 ?_
                refine s_isubU C dX0_isMet_126 (fun z85 tz85 => ?_)
                refine s_iast C y54 (by omega) dX0_isMet_127 ?_
                refine s_goto (tgt := 161) C dX0_isMet_128 (by decide) ?_
                refine s_iinc C dX0_isMet_161 rfl (by decide) rfl (by decide) (by omega) (fun z86 tz86 => ?_)
                show WP E ad 164 [some (.ref (ad 32)), some (.ref (ad 1)), some (.int a), some (.ref (ad 54)), some (.int t), some (.int u), some (.int z86), some (.int z10)] [] (sV τ 54 z81.toNatClampNeg z85)
                refine s_goto (tgt := 9) C dX0_isMet_164 (by decide) ?_
                refine wp_le (lv' := [some (.ref (ad 32)), some (.ref (ad 1)), some (.int a), some (.ref (ad 54)), some (.int t), some (.int u), some (.int z86), none]) ⟨rfl, ⟨rfl, ⟨rfl, ⟨rfl, ⟨rfl, ⟨rfl, ⟨rfl, trivial⟩⟩⟩⟩⟩⟩⟩ ?_
                exact ih (sV τ 54 z81.toNatClampNeg z85) t u z86 (Fr.sV (Fr.tr Fr.rf (Fr.mo kF (by decide) (by decide))) (Or.inl (by decide))) hXτ (by omega) (by omega) (by omega)
          · refine s_aload_n C dX0_isMet_64 rfl ?_
            refine s_iload C dX0_isMet_65 rfl ?_
            refine s_iload C dX0_isMet_67 rfl ?_
            refine s_iconst C dX0_isMet_69 (by decide) (fun z87 tz87 => ?_)
            refine s_icmp_ne (tgt := 78) C dX0_isMet_70 (by decide) (fun q88 => ?_) (fun q88 => ?_)
            · refine s_aload_n C dX0_isMet_78 rfl ?_
              refine s_iload_n C dX0_isMet_79 rfl ?_
              refine s_iload C dX0_isMet_80 rfl ?_
              refine s_aload_n C dX0_isMet_82 rfl ?_
              refine s_getr (k := 2) (j := 44) C y32 fw_X0_19 rfl dX0_isMet_83 ?_
              refine s_iload C dX0_isMet_86 rfl ?_
              refine s_iald (r := (τ.1 44 z.toNatClampNeg)) C y44 (by omega) rfl dX0_isMet_88 ?_
              refine s_iconst C dX0_isMet_89 (by decide) (fun z89 tz89 => ?_)
              skip
              refine s_ishr C dX0_isMet_90 (fun z90 tz90 => ?_)
              refine s_callSI (st := [.int t, .ref (ad 54)]) C (c_X0_unit l ad τ a z10 z90 (by omega) hg (fun h => by have hp := hXτ.C1.2.2 z.toNatClampNeg; unfold PV at hp; rw [show pOp (τ.1 44 z.toNatClampNeg) = z10 by rw [tz10, ceq (n := 15) tz9]; rfl, show pNm (τ.1 44 z.toNatClampNeg) = z90 by rw [tz90, ceq (n := 4) tz89]; rfl] at hp; exact hp h)) cv_X0_40 rfl rfl ⟨by decide, by decide⟩ (Nat.le_of_ble_eq_true rfl) dX0_isMet_91 ?_
              intro r91 τ92 h93
              obtain ⟨eh93, h93⟩ := h93; replace eh93 := eh93.symm; subst eh93
              refine s_iast C y54 (by omega) dX0_isMet_94 ?_
              refine s_iinc C dX0_isMet_95 rfl (by decide) rfl (by decide) (by omega) (fun z94 tz94 => ?_)
              show WP E ad 98 [some (.ref (ad 32)), some (.ref (ad 1)), some (.int a), some (.ref (ad 54)), some (.int z94), some (.int u), some (.int z), some (.int z10)] [] (sV τ 54 t.toNatClampNeg r91)
              refine s_goto (tgt := 161) C dX0_isMet_98 (by decide) ?_
              refine s_iinc C dX0_isMet_161 rfl (by decide) rfl (by decide) (by omega) (fun z95 tz95 => ?_)
              show WP E ad 164 [some (.ref (ad 32)), some (.ref (ad 1)), some (.int a), some (.ref (ad 54)), some (.int z94), some (.int u), some (.int z95), some (.int z10)] [] (sV τ 54 t.toNatClampNeg r91)
              refine s_goto (tgt := 9) C dX0_isMet_164 (by decide) ?_
              refine wp_le (lv' := [some (.ref (ad 32)), some (.ref (ad 1)), some (.int a), some (.ref (ad 54)), some (.int z94), some (.int u), some (.int z95), none]) ⟨rfl, ⟨rfl, ⟨rfl, ⟨rfl, ⟨rfl, ⟨rfl, ⟨rfl, trivial⟩⟩⟩⟩⟩⟩⟩ ?_
              exact ih (sV τ 54 t.toNatClampNeg r91) z94 u z95 (Fr.sV (Fr.tr Fr.rf (Fr.mo kF (by decide) (by decide))) (Or.inl (by decide))) hXτ (by omega) (by omega) (by omega)
            · refine s_iload C dX0_isMet_73 rfl ?_
              refine s_goto (tgt := 94) C dX0_isMet_75 (by decide) ?_
              refine s_iast C y54 (by omega) dX0_isMet_94 ?_
              refine s_iinc C dX0_isMet_95 rfl (by decide) rfl (by decide) (by omega) (fun z96 tz96 => ?_)
              show WP E ad 98 [some (.ref (ad 32)), some (.ref (ad 1)), some (.int a), some (.ref (ad 54)), some (.int z96), some (.int u), some (.int z), some (.int z10)] [] (sV τ 54 t.toNatClampNeg u)
              refine s_goto (tgt := 161) C dX0_isMet_98 (by decide) ?_
              refine s_iinc C dX0_isMet_161 rfl (by decide) rfl (by decide) (by omega) (fun z97 tz97 => ?_)
              show WP E ad 164 [some (.ref (ad 32)), some (.ref (ad 1)), some (.int a), some (.ref (ad 54)), some (.int z96), some (.int u), some (.int z97), some (.int z10)] [] (sV τ 54 t.toNatClampNeg u)
              refine s_goto (tgt := 9) C dX0_isMet_164 (by decide) ?_
              refine wp_le (lv' := [some (.ref (ad 32)), some (.ref (ad 1)), some (.int a), some (.ref (ad 54)), some (.int z96), some (.int u), some (.int z97), none]) ⟨rfl, ⟨rfl, ⟨rfl, ⟨rfl, ⟨rfl, ⟨rfl, ⟨rfl, trivial⟩⟩⟩⟩⟩⟩⟩ ?_
              exact ih (sV τ 54 t.toNatClampNeg u) z96 u z97 (Fr.sV (Fr.tr Fr.rf (Fr.mo kF (by decide) (by decide))) (Or.inl (by decide))) hXτ (by omega) (by omega) (by omega)
      · refine s_iload C dX0_isMet_36 rfl ?_
        refine s_if_ge (tgt := 51) C dX0_isMet_38 (by decide) (fun q98 => ?_) (fun q98 => ?_)
        · refine s_iload C dX0_isMet_51 rfl ?_
          refine s_iconst C dX0_isMet_53 (by decide) (fun z99 tz99 => ?_)
          refine s_icmp_gt (tgt := 101) C dX0_isMet_54 (by decide) (fun q100 => ?_) (fun q100 => ?_)
          · refine s_iload C dX0_isMet_101 rfl ?_
            refine s_bipush C dX0_isMet_103 (by decide) (fun z101 tz101 => ?_)
            refine s_icmp_ne (tgt := 131) C dX0_isMet_105 (by decide) (fun q102 => ?_) (fun q102 => ?_)
            · refine s_iload C dX0_isMet_131 rfl ?_
              refine s_iconst C dX0_isMet_133 (by decide) (fun z103 tz103 => ?_)
              refine s_icmp_lt (tgt := 161) C dX0_isMet_134 (by decide) (fun q104 => ?_) (fun q104 => ?_)
              · refine s_iinc C dX0_isMet_161 rfl (by decide) rfl (by decide) (by omega) (fun z105 tz105 => ?_)
                show WP E ad 164 [some (.ref (ad 32)), some (.ref (ad 1)), some (.int a), some (.ref (ad 54)), some (.int t), some (.int u), some (.int z105), some (.int z10)] [] τ
                refine s_goto (tgt := 9) C dX0_isMet_164 (by decide) ?_
                refine wp_le (lv' := [some (.ref (ad 32)), some (.ref (ad 1)), some (.int a), some (.ref (ad 54)), some (.int t), some (.int u), some (.int z105), none]) ⟨rfl, ⟨rfl, ⟨rfl, ⟨rfl, ⟨rfl, ⟨rfl, ⟨rfl, trivial⟩⟩⟩⟩⟩⟩⟩ ?_
                exact ih τ t u z105 (Fr.tr Fr.rf (Fr.mo kF (by decide) (by decide))) hXτ (by omega) (by omega) (by omega)
              · refine s_iinc C dX0_isMet_137 rfl (by decide) rfl (by decide) (by omega) (fun z106 tz106 => ?_)
                show WP E ad 140 [some (.ref (ad 32)), some (.ref (ad 1)), some (.int a), some (.ref (ad 54)), some (.int z106), some (.int u), some (.int z), some (.int z10)] [] τ
                refine s_aload_n C dX0_isMet_140 rfl ?_
                refine s_iload C dX0_isMet_141 rfl ?_
                refine s_iconst C dX0_isMet_143 (by decide) (fun z107 tz107 => ?_)
                refine s_isub C dX0_isMet_144 (by omega) (fun z108 tz108 => ?_)
                refine s_iload C dX0_isMet_145 rfl ?_
                refine s_aload_n C dX0_isMet_147 rfl ?_
                refine s_iload C dX0_isMet_148 rfl ?_
                refine s_iconst C dX0_isMet_150 (by decide) (fun z109 tz109 => ?_)
                refine s_isub C dX0_isMet_151 (by omega) (fun z110 tz110 => ?_)
                refine s_iald (r := (τ.1 54 z110.toNatClampNeg)) C y54 (by omega) rfl dX0_isMet_152 ?_
                refine s_aload_n C dX0_isMet_153 rfl ?_
                refine s_iload C dX0_isMet_154 rfl ?_
                refine s_iald (r := (τ.1 54 z106.toNatClampNeg)) C y54 (by omega) rfl dX0_isMet_156 ?_
                refine s_callSI (st := [.int z108, .ref (ad 54)]) C (c_X0_combined l ad τ z10 ((τ.1 54 z110.toNatClampNeg)) ((τ.1 54 z106.toNatClampNeg)) ) cv_X0_44 rfl rfl ⟨by decide, by decide⟩ (Nat.le_of_ble_eq_true rfl) dX0_isMet_157 ?_
                intro r111 τ112 h113
                obtain ⟨eh113, h113⟩ := h113; replace eh113 := eh113.symm; subst eh113
                refine s_iast C y54 (by omega) dX0_isMet_160 ?_
                refine s_iinc C dX0_isMet_161 rfl (by decide) rfl (by decide) (by omega) (fun z114 tz114 => ?_)
                show WP E ad 164 [some (.ref (ad 32)), some (.ref (ad 1)), some (.int a), some (.ref (ad 54)), some (.int z106), some (.int u), some (.int z114), some (.int z10)] [] (sV τ 54 z108.toNatClampNeg r111)
                refine s_goto (tgt := 9) C dX0_isMet_164 (by decide) ?_
                refine wp_le (lv' := [some (.ref (ad 32)), some (.ref (ad 1)), some (.int a), some (.ref (ad 54)), some (.int z106), some (.int u), some (.int z114), none]) ⟨rfl, ⟨rfl, ⟨rfl, ⟨rfl, ⟨rfl, ⟨rfl, ⟨rfl, trivial⟩⟩⟩⟩⟩⟩⟩ ?_
                exact ih (sV τ 54 z108.toNatClampNeg r111) z106 u z114 (Fr.sV (Fr.tr Fr.rf (Fr.mo kF (by decide) (by decide))) (Or.inl (by decide))) hXτ (by omega) (by omega) (by omega)
            · refine s_iload C dX0_isMet_108 rfl ?_
              refine s_iconst C dX0_isMet_110 (by decide) (fun z115 tz115 => ?_)
              refine s_icmp_lt (tgt := 131) C dX0_isMet_111 (by decide) (fun q116 => ?_) (fun q116 => ?_)
              · refine s_iload C dX0_isMet_131 rfl ?_
                refine s_iconst C dX0_isMet_133 (by decide) (fun z117 tz117 => ?_)
                refine s_icmp_lt (tgt := 161) C dX0_isMet_134 (by decide) (fun q118 => ?_) (fun q118 => ?_)
                · refine s_iinc C dX0_isMet_161 rfl (by decide) rfl (by decide) (by omega) (fun z119 tz119 => ?_)
                  show WP E ad 164 [some (.ref (ad 32)), some (.ref (ad 1)), some (.int a), some (.ref (ad 54)), some (.int t), some (.int u), some (.int z119), some (.int z10)] [] τ
                  refine s_goto (tgt := 9) C dX0_isMet_164 (by decide) ?_
                  refine wp_le (lv' := [some (.ref (ad 32)), some (.ref (ad 1)), some (.int a), some (.ref (ad 54)), some (.int t), some (.int u), some (.int z119), none]) ⟨rfl, ⟨rfl, ⟨rfl, ⟨rfl, ⟨rfl, ⟨rfl, ⟨rfl, trivial⟩⟩⟩⟩⟩⟩⟩ ?_
                  exact ih τ t u z119 (Fr.tr Fr.rf (Fr.mo kF (by decide) (by decide))) hXτ (by omega) (by omega) (by omega)
                · refine s_iinc C dX0_isMet_137 rfl (by decide) rfl (by decide) (by omega) (fun z120 tz120 => ?_)
                  show WP E ad 140 [some (.ref (ad 32)), some (.ref (ad 1)), some (.int a), some (.ref (ad 54)), some (.int z120), some (.int u), some (.int z), some (.int z10)] [] τ
                  refine s_aload_n C dX0_isMet_140 rfl ?_
                  refine s_iload C dX0_isMet_141 rfl ?_
                  refine s_iconst C dX0_isMet_143 (by decide) (fun z121 tz121 => ?_)
                  refine s_isub C dX0_isMet_144 (by omega) (fun z122 tz122 => ?_)
                  refine s_iload C dX0_isMet_145 rfl ?_
                  refine s_aload_n C dX0_isMet_147 rfl ?_
                  refine s_iload C dX0_isMet_148 rfl ?_
                  refine s_iconst C dX0_isMet_150 (by decide) (fun z123 tz123 => ?_)
                  refine s_isub C dX0_isMet_151 (by omega) (fun z124 tz124 => ?_)
                  refine s_iald (r := (τ.1 54 z124.toNatClampNeg)) C y54 (by omega) rfl dX0_isMet_152 ?_
                  refine s_aload_n C dX0_isMet_153 rfl ?_
                  refine s_iload C dX0_isMet_154 rfl ?_
                  refine s_iald (r := (τ.1 54 z120.toNatClampNeg)) C y54 (by omega) rfl dX0_isMet_156 ?_
                  refine s_callSI (st := [.int z122, .ref (ad 54)]) C (c_X0_combined l ad τ z10 ((τ.1 54 z124.toNatClampNeg)) ((τ.1 54 z120.toNatClampNeg)) ) cv_X0_44 rfl rfl ⟨by decide, by decide⟩ (Nat.le_of_ble_eq_true rfl) dX0_isMet_157 ?_
                  intro r125 τ126 h127
                  obtain ⟨eh127, h127⟩ := h127; replace eh127 := eh127.symm; subst eh127
                  refine s_iast C y54 (by omega) dX0_isMet_160 ?_
                  refine s_iinc C dX0_isMet_161 rfl (by decide) rfl (by decide) (by omega) (fun z128 tz128 => ?_)
                  show WP E ad 164 [some (.ref (ad 32)), some (.ref (ad 1)), some (.int a), some (.ref (ad 54)), some (.int z120), some (.int u), some (.int z128), some (.int z10)] [] (sV τ 54 z122.toNatClampNeg r125)
                  refine s_goto (tgt := 9) C dX0_isMet_164 (by decide) ?_
                  refine wp_le (lv' := [some (.ref (ad 32)), some (.ref (ad 1)), some (.int a), some (.ref (ad 54)), some (.int z120), some (.int u), some (.int z128), none]) ⟨rfl, ⟨rfl, ⟨rfl, ⟨rfl, ⟨rfl, ⟨rfl, ⟨rfl, trivial⟩⟩⟩⟩⟩⟩⟩ ?_
                  exact ih (sV τ 54 z122.toNatClampNeg r125) z120 u z128 (Fr.sV (Fr.tr Fr.rf (Fr.mo kF (by decide) (by decide))) (Or.inl (by decide))) hXτ (by omega) (by omega) (by omega)
              · refine s_aload_n C dX0_isMet_114 rfl ?_
                refine s_iload C dX0_isMet_115 rfl ?_
                refine s_iconst C dX0_isMet_117 (by decide) (fun z129 tz129 => ?_)
                refine s_isub C dX0_isMet_118 (by omega) (fun z130 tz130 => ?_)
                refine s_iconst C dX0_isMet_119 (by decide) (fun z131 tz131 => ?_)
                refine s_aload_n C dX0_isMet_120 rfl ?_
                refine s_iload C dX0_isMet_121 rfl ?_
                refine s_iconst C dX0_isMet_123 (by decide) (fun z132 tz132 => ?_)
                refine s_isub C dX0_isMet_124 (by omega) (fun z133 tz133 => ?_)
                refine s_iald (r := (τ.1 54 z133.toNatClampNeg)) C y54 (by omega) rfl dX0_isMet_125 ?_
                refine s_isubU C dX0_isMet_126 (fun z134 tz134 => ?_)
                refine s_iast C y54 (by omega) dX0_isMet_127 ?_
                refine s_goto (tgt := 161) C dX0_isMet_128 (by decide) ?_
                refine s_iinc C dX0_isMet_161 rfl (by decide) rfl (by decide) (by omega) (fun z135 tz135 => ?_)
                show WP E ad 164 [some (.ref (ad 32)), some (.ref (ad 1)), some (.int a), some (.ref (ad 54)), some (.int t), some (.int u), some (.int z135), some (.int z10)] [] (sV τ 54 z130.toNatClampNeg z134)
                refine s_goto (tgt := 9) C dX0_isMet_164 (by decide) ?_
                refine wp_le (lv' := [some (.ref (ad 32)), some (.ref (ad 1)), some (.int a), some (.ref (ad 54)), some (.int t), some (.int u), some (.int z135), none]) ⟨rfl, ⟨rfl, ⟨rfl, ⟨rfl, ⟨rfl, ⟨rfl, ⟨rfl, trivial⟩⟩⟩⟩⟩⟩⟩ ?_
                exact ih (sV τ 54 z130.toNatClampNeg z134) t u z135 (Fr.sV (Fr.tr Fr.rf (Fr.mo kF (by decide) (by decide))) (Or.inl (by decide))) hXτ (by omega) (by omega) (by omega)
          · refine s_iload C dX0_isMet_57 rfl ?_
            refine s_aload_n C dX0_isMet_59 rfl ?_
            refine s_alen0 C y54 (by omega) dX0_isMet_60 (fun z136 tz136 => ?_)
            refine s_icmp_ge (tgt := 101) C dX0_isMet_61 (by decide) (fun q137 => ?_) (fun q137 => ?_)
            · refine s_iload C dX0_isMet_101 rfl ?_
              refine s_bipush C dX0_isMet_103 (by decide) (fun z138 tz138 => ?_)
              refine s_icmp_ne (tgt := 131) C dX0_isMet_105 (by decide) (fun q139 => ?_) (fun q139 => ?_)
              · refine s_iload C dX0_isMet_131 rfl ?_
                refine s_iconst C dX0_isMet_133 (by decide) (fun z140 tz140 => ?_)
                refine s_icmp_lt (tgt := 161) C dX0_isMet_134 (by decide) (fun q141 => ?_) (fun q141 => ?_)
                · refine s_iinc C dX0_isMet_161 rfl (by decide) rfl (by decide) (by omega) (fun z142 tz142 => ?_)
                  show WP E ad 164 [some (.ref (ad 32)), some (.ref (ad 1)), some (.int a), some (.ref (ad 54)), some (.int t), some (.int u), some (.int z142), some (.int z10)] [] τ
                  refine s_goto (tgt := 9) C dX0_isMet_164 (by decide) ?_
                  refine wp_le (lv' := [some (.ref (ad 32)), some (.ref (ad 1)), some (.int a), some (.ref (ad 54)), some (.int t), some (.int u), some (.int z142), none]) ⟨rfl, ⟨rfl, ⟨rfl, ⟨rfl, ⟨rfl, ⟨rfl, ⟨rfl, trivial⟩⟩⟩⟩⟩⟩⟩ ?_
                  exact ih τ t u z142 (Fr.tr Fr.rf (Fr.mo kF (by decide) (by decide))) hXτ (by omega) (by omega) (by omega)
                · refine s_iinc C dX0_isMet_137 rfl (by decide) rfl (by decide) (by omega) (fun z143 tz143 => ?_)
                  show WP E ad 140 [some (.ref (ad 32)), some (.ref (ad 1)), some (.int a), some (.ref (ad 54)), some (.int z143), some (.int u), some (.int z), some (.int z10)] [] τ
                  refine s_aload_n C dX0_isMet_140 rfl ?_
                  refine s_iload C dX0_isMet_141 rfl ?_
                  refine s_iconst C dX0_isMet_143 (by decide) (fun z144 tz144 => ?_)
                  refine s_isub C dX0_isMet_144 (by omega) (fun z145 tz145 => ?_)
                  refine s_iload C dX0_isMet_145 rfl ?_
                  refine s_aload_n C dX0_isMet_147 rfl ?_
                  refine s_iload C dX0_isMet_148 rfl ?_
                  refine s_iconst C dX0_isMet_150 (by decide) (fun z146 tz146 => ?_)
                  refine s_isub C dX0_isMet_151 (by omega) (fun z147 tz147 => ?_)
                  refine s_iald (r := (τ.1 54 z147.toNatClampNeg)) C y54 (by omega) rfl dX0_isMet_152 ?_
                  refine s_aload_n C dX0_isMet_153 rfl ?_
                  refine s_iload C dX0_isMet_154 rfl ?_
                  refine s_iald (r := (τ.1 54 z143.toNatClampNeg)) C y54 (by omega) rfl dX0_isMet_156 ?_
                  refine s_callSI (st := [.int z145, .ref (ad 54)]) C (c_X0_combined l ad τ z10 ((τ.1 54 z147.toNatClampNeg)) ((τ.1 54 z143.toNatClampNeg)) ) cv_X0_44 rfl rfl ⟨by decide, by decide⟩ (Nat.le_of_ble_eq_true rfl) dX0_isMet_157 ?_
                  intro r148 τ149 h150
                  obtain ⟨eh150, h150⟩ := h150; replace eh150 := eh150.symm; subst eh150
                  refine s_iast C y54 (by omega) dX0_isMet_160 ?_
                  refine s_iinc C dX0_isMet_161 rfl (by decide) rfl (by decide) (by omega) (fun z151 tz151 => ?_)
                  show WP E ad 164 [some (.ref (ad 32)), some (.ref (ad 1)), some (.int a), some (.ref (ad 54)), some (.int z143), some (.int u), some (.int z151), some (.int z10)] [] (sV τ 54 z145.toNatClampNeg r148)
                  refine s_goto (tgt := 9) C dX0_isMet_164 (by decide) ?_
                  refine wp_le (lv' := [some (.ref (ad 32)), some (.ref (ad 1)), some (.int a), some (.ref (ad 54)), some (.int z143), some (.int u), some (.int z151), none]) ⟨rfl, ⟨rfl, ⟨rfl, ⟨rfl, ⟨rfl, ⟨rfl, ⟨rfl, trivial⟩⟩⟩⟩⟩⟩⟩ ?_
                  exact ih (sV τ 54 z145.toNatClampNeg r148) z143 u z151 (Fr.sV (Fr.tr Fr.rf (Fr.mo kF (by decide) (by decide))) (Or.inl (by decide))) hXτ (by omega) (by omega) (by omega)
              · refine s_iload C dX0_isMet_108 rfl ?_
                refine s_iconst C dX0_isMet_110 (by decide) (fun z152 tz152 => ?_)
                refine s_icmp_lt (tgt := 131) C dX0_isMet_111 (by decide) (fun q153 => ?_) (fun q153 => ?_)
                · refine s_iload C dX0_isMet_131 rfl ?_
                  refine s_iconst C dX0_isMet_133 (by decide) (fun z154 tz154 => ?_)
                  refine s_icmp_lt (tgt := 161) C dX0_isMet_134 (by decide) (fun q155 => ?_) (fun q155 => ?_)
                  · refine s_iinc C dX0_isMet_161 rfl (by decide) rfl (by decide) (by omega) (fun z156 tz156 => ?_)
                    show WP E ad 164 [some (.ref (ad 32)), some (.ref (ad 1)), some (.int a), some (.ref (ad 54)), some (.int t), some (.int u), some (.int z156), some (.int z10)] [] τ
                    refine s_goto (tgt := 9) C dX0_isMet_164 (by decide) ?_
                    refine wp_le (lv' := [some (.ref (ad 32)), some (.ref (ad 1)), some (.int a), some (.ref (ad 54)), some (.int t), some (.int u), some (.int z156), none]) ⟨rfl, ⟨rfl, ⟨rfl, ⟨rfl, ⟨rfl, ⟨rfl, ⟨rfl, trivial⟩⟩⟩⟩⟩⟩⟩ ?_
                    exact ih τ t u z156 (Fr.tr Fr.rf (Fr.mo kF (by decide) (by decide))) hXτ (by omega) (by omega) (by omega)
                  · refine s_iinc C dX0_isMet_137 rfl (by decide) rfl (by decide) (by omega) (fun z157 tz157 => ?_)
                    show WP E ad 140 [some (.ref (ad 32)), some (.ref (ad 1)), some (.int a), some (.ref (ad 54)), some (.int z157), some (.int u), some (.int z), some (.int z10)] [] τ
                    refine s_aload_n C dX0_isMet_140 rfl ?_
                    refine s_iload C dX0_isMet_141 rfl ?_
                    refine s_iconst C dX0_isMet_143 (by decide) (fun z158 tz158 => ?_)
                    refine s_isub C dX0_isMet_144 (by omega) (fun z159 tz159 => ?_)
                    refine s_iload C dX0_isMet_145 rfl ?_
                    refine s_aload_n C dX0_isMet_147 rfl ?_
                    refine s_iload C dX0_isMet_148 rfl ?_
                    refine s_iconst C dX0_isMet_150 (by decide) (fun z160 tz160 => ?_)
                    refine s_isub C dX0_isMet_151 (by omega) (fun z161 tz161 => ?_)
                    refine s_iald (r := (τ.1 54 z161.toNatClampNeg)) C y54 (by omega) rfl dX0_isMet_152 ?_
                    refine s_aload_n C dX0_isMet_153 rfl ?_
                    refine s_iload C dX0_isMet_154 rfl ?_
                    refine s_iald (r := (τ.1 54 z157.toNatClampNeg)) C y54 (by omega) rfl dX0_isMet_156 ?_
                    refine s_callSI (st := [.int z159, .ref (ad 54)]) C (c_X0_combined l ad τ z10 ((τ.1 54 z161.toNatClampNeg)) ((τ.1 54 z157.toNatClampNeg)) ) cv_X0_44 rfl rfl ⟨by decide, by decide⟩ (Nat.le_of_ble_eq_true rfl) dX0_isMet_157 ?_
                    intro r162 τ163 h164
                    obtain ⟨eh164, h164⟩ := h164; replace eh164 := eh164.symm; subst eh164
                    refine s_iast C y54 (by omega) dX0_isMet_160 ?_
                    refine s_iinc C dX0_isMet_161 rfl (by decide) rfl (by decide) (by omega) (fun z165 tz165 => ?_)
                    show WP E ad 164 [some (.ref (ad 32)), some (.ref (ad 1)), some (.int a), some (.ref (ad 54)), some (.int z157), some (.int u), some (.int z165), some (.int z10)] [] (sV τ 54 z159.toNatClampNeg r162)
                    refine s_goto (tgt := 9) C dX0_isMet_164 (by decide) ?_
                    refine wp_le (lv' := [some (.ref (ad 32)), some (.ref (ad 1)), some (.int a), some (.ref (ad 54)), some (.int z157), some (.int u), some (.int z165), none]) ⟨rfl, ⟨rfl, ⟨rfl, ⟨rfl, ⟨rfl, ⟨rfl, ⟨rfl, trivial⟩⟩⟩⟩⟩⟩⟩ ?_
                    exact ih (sV τ 54 z159.toNatClampNeg r162) z157 u z165 (Fr.sV (Fr.tr Fr.rf (Fr.mo kF (by decide) (by decide))) (Or.inl (by decide))) hXτ (by omega) (by omega) (by omega)
                · refine s_aload_n C dX0_isMet_114 rfl ?_
                  refine s_iload C dX0_isMet_115 rfl ?_
                  refine s_iconst C dX0_isMet_117 (by decide) (fun z166 tz166 => ?_)
                  refine s_isub C dX0_isMet_118 (by omega) (fun z167 tz167 => ?_)
                  refine s_iconst C dX0_isMet_119 (by decide) (fun z168 tz168 => ?_)
                  refine s_aload_n C dX0_isMet_120 rfl ?_
                  refine s_iload C dX0_isMet_121 rfl ?_
                  refine s_iconst C dX0_isMet_123 (by decide) (fun z169 tz169 => ?_)
                  refine s_isub C dX0_isMet_124 (by omega) (fun z170 tz170 => ?_)
                  refine s_iald (r := (τ.1 54 z170.toNatClampNeg)) C y54 (by omega) rfl dX0_isMet_125 ?_
                  refine s_isubU C dX0_isMet_126 (fun z171 tz171 => ?_)
                  refine s_iast C y54 (by omega) dX0_isMet_127 ?_
                  refine s_goto (tgt := 161) C dX0_isMet_128 (by decide) ?_
                  refine s_iinc C dX0_isMet_161 rfl (by decide) rfl (by decide) (by omega) (fun z172 tz172 => ?_)
                  show WP E ad 164 [some (.ref (ad 32)), some (.ref (ad 1)), some (.int a), some (.ref (ad 54)), some (.int t), some (.int u), some (.int z172), some (.int z10)] [] (sV τ 54 z167.toNatClampNeg z171)
                  refine s_goto (tgt := 9) C dX0_isMet_164 (by decide) ?_
                  refine wp_le (lv' := [some (.ref (ad 32)), some (.ref (ad 1)), some (.int a), some (.ref (ad 54)), some (.int t), some (.int u), some (.int z172), none]) ⟨rfl, ⟨rfl, ⟨rfl, ⟨rfl, ⟨rfl, ⟨rfl, ⟨rfl, trivial⟩⟩⟩⟩⟩⟩⟩ ?_
                  exact ih (sV τ 54 z167.toNatClampNeg z171) t u z172 (Fr.sV (Fr.tr Fr.rf (Fr.mo kF (by decide) (by decide))) (Or.inl (by decide))) hXτ (by omega) (by omega) (by omega)
            · refine s_aload_n C dX0_isMet_64 rfl ?_
              refine s_iload C dX0_isMet_65 rfl ?_
              refine s_iload C dX0_isMet_67 rfl ?_
              refine s_iconst C dX0_isMet_69 (by decide) (fun z173 tz173 => ?_)
              refine s_icmp_ne (tgt := 78) C dX0_isMet_70 (by decide) (fun q174 => ?_) (fun q174 => ?_)
              · refine s_aload_n C dX0_isMet_78 rfl ?_
                refine s_iload_n C dX0_isMet_79 rfl ?_
                refine s_iload C dX0_isMet_80 rfl ?_
                refine s_aload_n C dX0_isMet_82 rfl ?_
                refine s_getr (k := 2) (j := 44) C y32 fw_X0_19 rfl dX0_isMet_83 ?_
                refine s_iload C dX0_isMet_86 rfl ?_
                refine s_iald (r := (τ.1 44 z.toNatClampNeg)) C y44 (by omega) rfl dX0_isMet_88 ?_
                refine s_iconst C dX0_isMet_89 (by decide) (fun z175 tz175 => ?_)
                skip
                refine s_ishr C dX0_isMet_90 (fun z176 tz176 => ?_)
                refine s_callSI (st := [.int t, .ref (ad 54)]) C (c_X0_unit l ad τ a z10 z176 (by omega) hg (fun h => by have hp := hXτ.C1.2.2 z.toNatClampNeg; unfold PV at hp; rw [show pOp (τ.1 44 z.toNatClampNeg) = z10 by rw [tz10, ceq (n := 15) tz9]; rfl, show pNm (τ.1 44 z.toNatClampNeg) = z176 by rw [tz176, ceq (n := 4) tz175]; rfl] at hp; exact hp h)) cv_X0_40 rfl rfl ⟨by decide, by decide⟩ (Nat.le_of_ble_eq_true rfl) dX0_isMet_91 ?_
                intro r177 τ178 h179
                obtain ⟨eh179, h179⟩ := h179; replace eh179 := eh179.symm; subst eh179
                refine s_iast C y54 (by omega) dX0_isMet_94 ?_
                refine s_iinc C dX0_isMet_95 rfl (by decide) rfl (by decide) (by omega) (fun z180 tz180 => ?_)
                show WP E ad 98 [some (.ref (ad 32)), some (.ref (ad 1)), some (.int a), some (.ref (ad 54)), some (.int z180), some (.int u), some (.int z), some (.int z10)] [] (sV τ 54 t.toNatClampNeg r177)
                refine s_goto (tgt := 161) C dX0_isMet_98 (by decide) ?_
                refine s_iinc C dX0_isMet_161 rfl (by decide) rfl (by decide) (by omega) (fun z181 tz181 => ?_)
                show WP E ad 164 [some (.ref (ad 32)), some (.ref (ad 1)), some (.int a), some (.ref (ad 54)), some (.int z180), some (.int u), some (.int z181), some (.int z10)] [] (sV τ 54 t.toNatClampNeg r177)
                refine s_goto (tgt := 9) C dX0_isMet_164 (by decide) ?_
                refine wp_le (lv' := [some (.ref (ad 32)), some (.ref (ad 1)), some (.int a), some (.ref (ad 54)), some (.int z180), some (.int u), some (.int z181), none]) ⟨rfl, ⟨rfl, ⟨rfl, ⟨rfl, ⟨rfl, ⟨rfl, ⟨rfl, trivial⟩⟩⟩⟩⟩⟩⟩ ?_
                exact ih (sV τ 54 t.toNatClampNeg r177) z180 u z181 (Fr.sV (Fr.tr Fr.rf (Fr.mo kF (by decide) (by decide))) (Or.inl (by decide))) hXτ (by omega) (by omega) (by omega)
              · refine s_iload C dX0_isMet_73 rfl ?_
                refine s_goto (tgt := 94) C dX0_isMet_75 (by decide) ?_
                refine s_iast C y54 (by omega) dX0_isMet_94 ?_
                refine s_iinc C dX0_isMet_95 rfl (by decide) rfl (by decide) (by omega) (fun z182 tz182 => ?_)
                show WP E ad 98 [some (.ref (ad 32)), some (.ref (ad 1)), some (.int a), some (.ref (ad 54)), some (.int z182), some (.int u), some (.int z), some (.int z10)] [] (sV τ 54 t.toNatClampNeg u)
                refine s_goto (tgt := 161) C dX0_isMet_98 (by decide) ?_
                refine s_iinc C dX0_isMet_161 rfl (by decide) rfl (by decide) (by omega) (fun z183 tz183 => ?_)
                show WP E ad 164 [some (.ref (ad 32)), some (.ref (ad 1)), some (.int a), some (.ref (ad 54)), some (.int z182), some (.int u), some (.int z183), some (.int z10)] [] (sV τ 54 t.toNatClampNeg u)
                refine s_goto (tgt := 9) C dX0_isMet_164 (by decide) ?_
                refine wp_le (lv' := [some (.ref (ad 32)), some (.ref (ad 1)), some (.int a), some (.ref (ad 54)), some (.int z182), some (.int u), some (.int z183), none]) ⟨rfl, ⟨rfl, ⟨rfl, ⟨rfl, ⟨rfl, ⟨rfl, ⟨rfl, trivial⟩⟩⟩⟩⟩⟩⟩ ?_
                exact ih (sV τ 54 t.toNatClampNeg u) z182 u z183 (Fr.sV (Fr.tr Fr.rf (Fr.mo kF (by decide) (by decide))) (Or.inl (by decide))) hXτ (by omega) (by omega) (by omega)
        · refine s_aload_n C dX0_isMet_41 rfl ?_
          refine s_iload_n C dX0_isMet_42 rfl ?_
          refine s_callVI (st := []) C (c_X5_underWay l ad τ a hXτ) cv_X0_29 y1 rfl rfl rfl ⟨by decide, by decide⟩ (Nat.le_of_ble_eq_true rfl) dX0_isMet_43 ?_
          intro r184 τ185 h186
          obtain ⟨eh186, h186⟩ := h186; replace eh186 := eh186.symm; subst eh186
          refine s_callSI (st := []) C (c_J6_bitCount_0f7a4 l ad τ r184 ) cv_X0_35 rfl rfl ⟨by decide, by decide⟩ (Nat.le_of_ble_eq_true rfl) dX0_isMet_46 ?_
          intro r187 τ188 h189
          obtain ⟨eh189, h189⟩ := h189; replace eh189 := eh189.symm; subst eh189
          refine s_istore C dX0_isMet_49 (by decide) (Nat.le_of_ble_eq_true rfl) rfl ?_
          show WP E ad 51 [some (.ref (ad 32)), some (.ref (ad 1)), some (.int a), some (.ref (ad 54)), some (.int t), some (.int r187), some (.int z), some (.int z10)] [] τ
          refine s_iload C dX0_isMet_51 rfl ?_
          refine s_iconst C dX0_isMet_53 (by decide) (fun z190 tz190 => ?_)
          refine s_icmp_gt (tgt := 101) C dX0_isMet_54 (by decide) (fun q191 => ?_) (fun q191 => ?_)
          · refine s_iload C dX0_isMet_101 rfl ?_
            refine s_bipush C dX0_isMet_103 (by decide) (fun z192 tz192 => ?_)
            refine s_icmp_ne (tgt := 131) C dX0_isMet_105 (by decide) (fun q193 => ?_) (fun q193 => ?_)
            · refine s_iload C dX0_isMet_131 rfl ?_
              refine s_iconst C dX0_isMet_133 (by decide) (fun z194 tz194 => ?_)
              refine s_icmp_lt (tgt := 161) C dX0_isMet_134 (by decide) (fun q195 => ?_) (fun q195 => ?_)
              · refine s_iinc C dX0_isMet_161 rfl (by decide) rfl (by decide) (by omega) (fun z196 tz196 => ?_)
                show WP E ad 164 [some (.ref (ad 32)), some (.ref (ad 1)), some (.int a), some (.ref (ad 54)), some (.int t), some (.int r187), some (.int z196), some (.int z10)] [] τ
                refine s_goto (tgt := 9) C dX0_isMet_164 (by decide) ?_
                refine wp_le (lv' := [some (.ref (ad 32)), some (.ref (ad 1)), some (.int a), some (.ref (ad 54)), some (.int t), some (.int r187), some (.int z196), none]) ⟨rfl, ⟨rfl, ⟨rfl, ⟨rfl, ⟨rfl, ⟨rfl, ⟨rfl, trivial⟩⟩⟩⟩⟩⟩⟩ ?_
                exact ih τ t r187 z196 (Fr.tr Fr.rf (Fr.mo kF (by decide) (by decide))) hXτ (by omega) (by omega) (by omega)
              · refine s_iinc C dX0_isMet_137 rfl (by decide) rfl (by decide) (by omega) (fun z197 tz197 => ?_)
                show WP E ad 140 [some (.ref (ad 32)), some (.ref (ad 1)), some (.int a), some (.ref (ad 54)), some (.int z197), some (.int r187), some (.int z), some (.int z10)] [] τ
                refine s_aload_n C dX0_isMet_140 rfl ?_
                refine s_iload C dX0_isMet_141 rfl ?_
                refine s_iconst C dX0_isMet_143 (by decide) (fun z198 tz198 => ?_)
                refine s_isub C dX0_isMet_144 (by omega) (fun z199 tz199 => ?_)
                refine s_iload C dX0_isMet_145 rfl ?_
                refine s_aload_n C dX0_isMet_147 rfl ?_
                refine s_iload C dX0_isMet_148 rfl ?_
                refine s_iconst C dX0_isMet_150 (by decide) (fun z200 tz200 => ?_)
                refine s_isub C dX0_isMet_151 (by omega) (fun z201 tz201 => ?_)
                refine s_iald (r := (τ.1 54 z201.toNatClampNeg)) C y54 (by omega) rfl dX0_isMet_152 ?_
                refine s_aload_n C dX0_isMet_153 rfl ?_
                refine s_iload C dX0_isMet_154 rfl ?_
                refine s_iald (r := (τ.1 54 z197.toNatClampNeg)) C y54 (by omega) rfl dX0_isMet_156 ?_
                refine s_callSI (st := [.int z199, .ref (ad 54)]) C (c_X0_combined l ad τ z10 ((τ.1 54 z201.toNatClampNeg)) ((τ.1 54 z197.toNatClampNeg)) ) cv_X0_44 rfl rfl ⟨by decide, by decide⟩ (Nat.le_of_ble_eq_true rfl) dX0_isMet_157 ?_
                intro r202 τ203 h204
                obtain ⟨eh204, h204⟩ := h204; replace eh204 := eh204.symm; subst eh204
                refine s_iast C y54 (by omega) dX0_isMet_160 ?_
                refine s_iinc C dX0_isMet_161 rfl (by decide) rfl (by decide) (by omega) (fun z205 tz205 => ?_)
                show WP E ad 164 [some (.ref (ad 32)), some (.ref (ad 1)), some (.int a), some (.ref (ad 54)), some (.int z197), some (.int r187), some (.int z205), some (.int z10)] [] (sV τ 54 z199.toNatClampNeg r202)
                refine s_goto (tgt := 9) C dX0_isMet_164 (by decide) ?_
                refine wp_le (lv' := [some (.ref (ad 32)), some (.ref (ad 1)), some (.int a), some (.ref (ad 54)), some (.int z197), some (.int r187), some (.int z205), none]) ⟨rfl, ⟨rfl, ⟨rfl, ⟨rfl, ⟨rfl, ⟨rfl, ⟨rfl, trivial⟩⟩⟩⟩⟩⟩⟩ ?_
                exact ih (sV τ 54 z199.toNatClampNeg r202) z197 r187 z205 (Fr.sV (Fr.tr Fr.rf (Fr.mo kF (by decide) (by decide))) (Or.inl (by decide))) hXτ (by omega) (by omega) (by omega)
            · refine s_iload C dX0_isMet_108 rfl ?_
              refine s_iconst C dX0_isMet_110 (by decide) (fun z206 tz206 => ?_)
              refine s_icmp_lt (tgt := 131) C dX0_isMet_111 (by decide) (fun q207 => ?_) (fun q207 => ?_)
              · refine s_iload C dX0_isMet_131 rfl ?_
                refine s_iconst C dX0_isMet_133 (by decide) (fun z208 tz208 => ?_)
                refine s_icmp_lt (tgt := 161) C dX0_isMet_134 (by decide) (fun q209 => ?_) (fun q209 => ?_)
                · refine s_iinc C dX0_isMet_161 rfl (by decide) rfl (by decide) (by omega) (fun z210 tz210 => ?_)
                  show WP E ad 164 [some (.ref (ad 32)), some (.ref (ad 1)), some (.int a), some (.ref (ad 54)), some (.int t), some (.int r187), some (.int z210), some (.int z10)] [] τ
                  refine s_goto (tgt := 9) C dX0_isMet_164 (by decide) ?_
                  refine wp_le (lv' := [some (.ref (ad 32)), some (.ref (ad 1)), some (.int a), some (.ref (ad 54)), some (.int t), some (.int r187), some (.int z210), none]) ⟨rfl, ⟨rfl, ⟨rfl, ⟨rfl, ⟨rfl, ⟨rfl, ⟨rfl, trivial⟩⟩⟩⟩⟩⟩⟩ ?_
                  exact ih τ t r187 z210 (Fr.tr Fr.rf (Fr.mo kF (by decide) (by decide))) hXτ (by omega) (by omega) (by omega)
                · refine s_iinc C dX0_isMet_137 rfl (by decide) rfl (by decide) (by omega) (fun z211 tz211 => ?_)
                  show WP E ad 140 [some (.ref (ad 32)), some (.ref (ad 1)), some (.int a), some (.ref (ad 54)), some (.int z211), some (.int r187), some (.int z), some (.int z10)] [] τ
                  refine s_aload_n C dX0_isMet_140 rfl ?_
                  refine s_iload C dX0_isMet_141 rfl ?_
                  refine s_iconst C dX0_isMet_143 (by decide) (fun z212 tz212 => ?_)
                  refine s_isub C dX0_isMet_144 (by omega) (fun z213 tz213 => ?_)
                  refine s_iload C dX0_isMet_145 rfl ?_
                  refine s_aload_n C dX0_isMet_147 rfl ?_
                  refine s_iload C dX0_isMet_148 rfl ?_
                  refine s_iconst C dX0_isMet_150 (by decide) (fun z214 tz214 => ?_)
                  refine s_isub C dX0_isMet_151 (by omega) (fun z215 tz215 => ?_)
                  refine s_iald (r := (τ.1 54 z215.toNatClampNeg)) C y54 (by omega) rfl dX0_isMet_152 ?_
                  refine s_aload_n C dX0_isMet_153 rfl ?_
                  refine s_iload C dX0_isMet_154 rfl ?_
                  refine s_iald (r := (τ.1 54 z211.toNatClampNeg)) C y54 (by omega) rfl dX0_isMet_156 ?_
                  refine s_callSI (st := [.int z213, .ref (ad 54)]) C (c_X0_combined l ad τ z10 ((τ.1 54 z215.toNatClampNeg)) ((τ.1 54 z211.toNatClampNeg)) ) cv_X0_44 rfl rfl ⟨by decide, by decide⟩ (Nat.le_of_ble_eq_true rfl) dX0_isMet_157 ?_
                  intro r216 τ217 h218
                  obtain ⟨eh218, h218⟩ := h218; replace eh218 := eh218.symm; subst eh218
                  refine s_iast C y54 (by omega) dX0_isMet_160 ?_
                  refine s_iinc C dX0_isMet_161 rfl (by decide) rfl (by decide) (by omega) (fun z219 tz219 => ?_)
                  show WP E ad 164 [some (.ref (ad 32)), some (.ref (ad 1)), some (.int a), some (.ref (ad 54)), some (.int z211), some (.int r187), some (.int z219), some (.int z10)] [] (sV τ 54 z213.toNatClampNeg r216)
                  refine s_goto (tgt := 9) C dX0_isMet_164 (by decide) ?_
                  refine wp_le (lv' := [some (.ref (ad 32)), some (.ref (ad 1)), some (.int a), some (.ref (ad 54)), some (.int z211), some (.int r187), some (.int z219), none]) ⟨rfl, ⟨rfl, ⟨rfl, ⟨rfl, ⟨rfl, ⟨rfl, ⟨rfl, trivial⟩⟩⟩⟩⟩⟩⟩ ?_
                  exact ih (sV τ 54 z213.toNatClampNeg r216) z211 r187 z219 (Fr.sV (Fr.tr Fr.rf (Fr.mo kF (by decide) (by decide))) (Or.inl (by decide))) hXτ (by omega) (by omega) (by omega)
              · refine s_aload_n C dX0_isMet_114 rfl ?_
                refine s_iload C dX0_isMet_115 rfl ?_
                refine s_iconst C dX0_isMet_117 (by decide) (fun z220 tz220 => ?_)
                refine s_isub C dX0_isMet_118 (by omega) (fun z221 tz221 => ?_)
                refine s_iconst C dX0_isMet_119 (by decide) (fun z222 tz222 => ?_)
                refine s_aload_n C dX0_isMet_120 rfl ?_
                refine s_iload C dX0_isMet_121 rfl ?_
                refine s_iconst C dX0_isMet_123 (by decide) (fun z223 tz223 => ?_)
                refine s_isub C dX0_isMet_124 (by omega) (fun z224 tz224 => ?_)
                refine s_iald (r := (τ.1 54 z224.toNatClampNeg)) C y54 (by omega) rfl dX0_isMet_125 ?_
                refine s_isubU C dX0_isMet_126 (fun z225 tz225 => ?_)
                refine s_iast C y54 (by omega) dX0_isMet_127 ?_
                refine s_goto (tgt := 161) C dX0_isMet_128 (by decide) ?_
                refine s_iinc C dX0_isMet_161 rfl (by decide) rfl (by decide) (by omega) (fun z226 tz226 => ?_)
                show WP E ad 164 [some (.ref (ad 32)), some (.ref (ad 1)), some (.int a), some (.ref (ad 54)), some (.int t), some (.int r187), some (.int z226), some (.int z10)] [] (sV τ 54 z221.toNatClampNeg z225)
                refine s_goto (tgt := 9) C dX0_isMet_164 (by decide) ?_
                refine wp_le (lv' := [some (.ref (ad 32)), some (.ref (ad 1)), some (.int a), some (.ref (ad 54)), some (.int t), some (.int r187), some (.int z226), none]) ⟨rfl, ⟨rfl, ⟨rfl, ⟨rfl, ⟨rfl, ⟨rfl, ⟨rfl, trivial⟩⟩⟩⟩⟩⟩⟩ ?_
                exact ih (sV τ 54 z221.toNatClampNeg z225) t r187 z226 (Fr.sV (Fr.tr Fr.rf (Fr.mo kF (by decide) (by decide))) (Or.inl (by decide))) hXτ (by omega) (by omega) (by omega)
          · refine s_iload C dX0_isMet_57 rfl ?_
            refine s_aload_n C dX0_isMet_59 rfl ?_
            refine s_alen0 C y54 (by omega) dX0_isMet_60 (fun z227 tz227 => ?_)
            refine s_icmp_ge (tgt := 101) C dX0_isMet_61 (by decide) (fun q228 => ?_) (fun q228 => ?_)
            · refine s_iload C dX0_isMet_101 rfl ?_
              refine s_bipush C dX0_isMet_103 (by decide) (fun z229 tz229 => ?_)
              refine s_icmp_ne (tgt := 131) C dX0_isMet_105 (by decide) (fun q230 => ?_) (fun q230 => ?_)
              · refine s_iload C dX0_isMet_131 rfl ?_
                refine s_iconst C dX0_isMet_133 (by decide) (fun z231 tz231 => ?_)
                refine s_icmp_lt (tgt := 161) C dX0_isMet_134 (by decide) (fun q232 => ?_) (fun q232 => ?_)
                · refine s_iinc C dX0_isMet_161 rfl (by decide) rfl (by decide) (by omega) (fun z233 tz233 => ?_)
                  show WP E ad 164 [some (.ref (ad 32)), some (.ref (ad 1)), some (.int a), some (.ref (ad 54)), some (.int t), some (.int r187), some (.int z233), some (.int z10)] [] τ
                  refine s_goto (tgt := 9) C dX0_isMet_164 (by decide) ?_
                  refine wp_le (lv' := [some (.ref (ad 32)), some (.ref (ad 1)), some (.int a), some (.ref (ad 54)), some (.int t), some (.int r187), some (.int z233), none]) ⟨rfl, ⟨rfl, ⟨rfl, ⟨rfl, ⟨rfl, ⟨rfl, ⟨rfl, trivial⟩⟩⟩⟩⟩⟩⟩ ?_
                  exact ih τ t r187 z233 (Fr.tr Fr.rf (Fr.mo kF (by decide) (by decide))) hXτ (by omega) (by omega) (by omega)
                · refine s_iinc C dX0_isMet_137 rfl (by decide) rfl (by decide) (by omega) (fun z234 tz234 => ?_)
                  show WP E ad 140 [some (.ref (ad 32)), some (.ref (ad 1)), some (.int a), some (.ref (ad 54)), some (.int z234), some (.int r187), some (.int z), some (.int z10)] [] τ
                  refine s_aload_n C dX0_isMet_140 rfl ?_
                  refine s_iload C dX0_isMet_141 rfl ?_
                  refine s_iconst C dX0_isMet_143 (by decide) (fun z235 tz235 => ?_)
                  refine s_isub C dX0_isMet_144 (by omega) (fun z236 tz236 => ?_)
                  refine s_iload C dX0_isMet_145 rfl ?_
                  refine s_aload_n C dX0_isMet_147 rfl ?_
                  refine s_iload C dX0_isMet_148 rfl ?_
                  refine s_iconst C dX0_isMet_150 (by decide) (fun z237 tz237 => ?_)
                  refine s_isub C dX0_isMet_151 (by omega) (fun z238 tz238 => ?_)
                  refine s_iald (r := (τ.1 54 z238.toNatClampNeg)) C y54 (by omega) rfl dX0_isMet_152 ?_
                  refine s_aload_n C dX0_isMet_153 rfl ?_
                  refine s_iload C dX0_isMet_154 rfl ?_
                  refine s_iald (r := (τ.1 54 z234.toNatClampNeg)) C y54 (by omega) rfl dX0_isMet_156 ?_
                  refine s_callSI (st := [.int z236, .ref (ad 54)]) C (c_X0_combined l ad τ z10 ((τ.1 54 z238.toNatClampNeg)) ((τ.1 54 z234.toNatClampNeg)) ) cv_X0_44 rfl rfl ⟨by decide, by decide⟩ (Nat.le_of_ble_eq_true rfl) dX0_isMet_157 ?_
                  intro r239 τ240 h241
                  obtain ⟨eh241, h241⟩ := h241; replace eh241 := eh241.symm; subst eh241
                  refine s_iast C y54 (by omega) dX0_isMet_160 ?_
                  refine s_iinc C dX0_isMet_161 rfl (by decide) rfl (by decide) (by omega) (fun z242 tz242 => ?_)
                  show WP E ad 164 [some (.ref (ad 32)), some (.ref (ad 1)), some (.int a), some (.ref (ad 54)), some (.int z234), some (.int r187), some (.int z242), some (.int z10)] [] (sV τ 54 z236.toNatClampNeg r239)
                  refine s_goto (tgt := 9) C dX0_isMet_164 (by decide) ?_
                  refine wp_le (lv' := [some (.ref (ad 32)), some (.ref (ad 1)), some (.int a), some (.ref (ad 54)), some (.int z234), some (.int r187), some (.int z242), none]) ⟨rfl, ⟨rfl, ⟨rfl, ⟨rfl, ⟨rfl, ⟨rfl, ⟨rfl, trivial⟩⟩⟩⟩⟩⟩⟩ ?_
                  exact ih (sV τ 54 z236.toNatClampNeg r239) z234 r187 z242 (Fr.sV (Fr.tr Fr.rf (Fr.mo kF (by decide) (by decide))) (Or.inl (by decide))) hXτ (by omega) (by omega) (by omega)
              · refine s_iload C dX0_isMet_108 rfl ?_
                refine s_iconst C dX0_isMet_110 (by decide) (fun z243 tz243 => ?_)
                refine s_icmp_lt (tgt := 131) C dX0_isMet_111 (by decide) (fun q244 => ?_) (fun q244 => ?_)
                · refine s_iload C dX0_isMet_131 rfl ?_
                  refine s_iconst C dX0_isMet_133 (by decide) (fun z245 tz245 => ?_)
                  refine s_icmp_lt (tgt := 161) C dX0_isMet_134 (by decide) (fun q246 => ?_) (fun q246 => ?_)
                  · refine s_iinc C dX0_isMet_161 rfl (by decide) rfl (by decide) (by omega) (fun z247 tz247 => ?_)
                    show WP E ad 164 [some (.ref (ad 32)), some (.ref (ad 1)), some (.int a), some (.ref (ad 54)), some (.int t), some (.int r187), some (.int z247), some (.int z10)] [] τ
                    refine s_goto (tgt := 9) C dX0_isMet_164 (by decide) ?_
                    refine wp_le (lv' := [some (.ref (ad 32)), some (.ref (ad 1)), some (.int a), some (.ref (ad 54)), some (.int t), some (.int r187), some (.int z247), none]) ⟨rfl, ⟨rfl, ⟨rfl, ⟨rfl, ⟨rfl, ⟨rfl, ⟨rfl, trivial⟩⟩⟩⟩⟩⟩⟩ ?_
                    exact ih τ t r187 z247 (Fr.tr Fr.rf (Fr.mo kF (by decide) (by decide))) hXτ (by omega) (by omega) (by omega)
                  · refine s_iinc C dX0_isMet_137 rfl (by decide) rfl (by decide) (by omega) (fun z248 tz248 => ?_)
                    show WP E ad 140 [some (.ref (ad 32)), some (.ref (ad 1)), some (.int a), some (.ref (ad 54)), some (.int z248), some (.int r187), some (.int z), some (.int z10)] [] τ
                    refine s_aload_n C dX0_isMet_140 rfl ?_
                    refine s_iload C dX0_isMet_141 rfl ?_
                    refine s_iconst C dX0_isMet_143 (by decide) (fun z249 tz249 => ?_)
                    refine s_isub C dX0_isMet_144 (by omega) (fun z250 tz250 => ?_)
                    refine s_iload C dX0_isMet_145 rfl ?_
                    refine s_aload_n C dX0_isMet_147 rfl ?_
                    refine s_iload C dX0_isMet_148 rfl ?_
                    refine s_iconst C dX0_isMet_150 (by decide) (fun z251 tz251 => ?_)
                    refine s_isub C dX0_isMet_151 (by omega) (fun z252 tz252 => ?_)
                    refine s_iald (r := (τ.1 54 z252.toNatClampNeg)) C y54 (by omega) rfl dX0_isMet_152 ?_
                    refine s_aload_n C dX0_isMet_153 rfl ?_
                    refine s_iload C dX0_isMet_154 rfl ?_
                    refine s_iald (r := (τ.1 54 z248.toNatClampNeg)) C y54 (by omega) rfl dX0_isMet_156 ?_
                    refine s_callSI (st := [.int z250, .ref (ad 54)]) C (c_X0_combined l ad τ z10 ((τ.1 54 z252.toNatClampNeg)) ((τ.1 54 z248.toNatClampNeg)) ) cv_X0_44 rfl rfl ⟨by decide, by decide⟩ (Nat.le_of_ble_eq_true rfl) dX0_isMet_157 ?_
                    intro r253 τ254 h255
                    obtain ⟨eh255, h255⟩ := h255; replace eh255 := eh255.symm; subst eh255
                    refine s_iast C y54 (by omega) dX0_isMet_160 ?_
                    refine s_iinc C dX0_isMet_161 rfl (by decide) rfl (by decide) (by omega) (fun z256 tz256 => ?_)
                    show WP E ad 164 [some (.ref (ad 32)), some (.ref (ad 1)), some (.int a), some (.ref (ad 54)), some (.int z248), some (.int r187), some (.int z256), some (.int z10)] [] (sV τ 54 z250.toNatClampNeg r253)
                    refine s_goto (tgt := 9) C dX0_isMet_164 (by decide) ?_
                    refine wp_le (lv' := [some (.ref (ad 32)), some (.ref (ad 1)), some (.int a), some (.ref (ad 54)), some (.int z248), some (.int r187), some (.int z256), none]) ⟨rfl, ⟨rfl, ⟨rfl, ⟨rfl, ⟨rfl, ⟨rfl, ⟨rfl, trivial⟩⟩⟩⟩⟩⟩⟩ ?_
                    exact ih (sV τ 54 z250.toNatClampNeg r253) z248 r187 z256 (Fr.sV (Fr.tr Fr.rf (Fr.mo kF (by decide) (by decide))) (Or.inl (by decide))) hXτ (by omega) (by omega) (by omega)
                · refine s_aload_n C dX0_isMet_114 rfl ?_
                  refine s_iload C dX0_isMet_115 rfl ?_
                  refine s_iconst C dX0_isMet_117 (by decide) (fun z257 tz257 => ?_)
                  refine s_isub C dX0_isMet_118 (by omega) (fun z258 tz258 => ?_)
                  refine s_iconst C dX0_isMet_119 (by decide) (fun z259 tz259 => ?_)
                  refine s_aload_n C dX0_isMet_120 rfl ?_
                  refine s_iload C dX0_isMet_121 rfl ?_
                  refine s_iconst C dX0_isMet_123 (by decide) (fun z260 tz260 => ?_)
                  refine s_isub C dX0_isMet_124 (by omega) (fun z261 tz261 => ?_)
                  refine s_iald (r := (τ.1 54 z261.toNatClampNeg)) C y54 (by omega) rfl dX0_isMet_125 ?_
                  refine s_isubU C dX0_isMet_126 (fun z262 tz262 => ?_)
                  refine s_iast C y54 (by omega) dX0_isMet_127 ?_
                  refine s_goto (tgt := 161) C dX0_isMet_128 (by decide) ?_
                  refine s_iinc C dX0_isMet_161 rfl (by decide) rfl (by decide) (by omega) (fun z263 tz263 => ?_)
                  show WP E ad 164 [some (.ref (ad 32)), some (.ref (ad 1)), some (.int a), some (.ref (ad 54)), some (.int t), some (.int r187), some (.int z263), some (.int z10)] [] (sV τ 54 z258.toNatClampNeg z262)
                  refine s_goto (tgt := 9) C dX0_isMet_164 (by decide) ?_
                  refine wp_le (lv' := [some (.ref (ad 32)), some (.ref (ad 1)), some (.int a), some (.ref (ad 54)), some (.int t), some (.int r187), some (.int z263), none]) ⟨rfl, ⟨rfl, ⟨rfl, ⟨rfl, ⟨rfl, ⟨rfl, ⟨rfl, trivial⟩⟩⟩⟩⟩⟩⟩ ?_
                  exact ih (sV τ 54 z258.toNatClampNeg z262) t r187 z263 (Fr.sV (Fr.tr Fr.rf (Fr.mo kF (by decide) (by decide))) (Or.inl (by decide))) hXτ (by omega) (by omega) (by omega)
            · refine s_aload_n C dX0_isMet_64 rfl ?_
              refine s_iload C dX0_isMet_65 rfl ?_
              refine s_iload C dX0_isMet_67 rfl ?_
              refine s_iconst C dX0_isMet_69 (by decide) (fun z264 tz264 => ?_)
              refine s_icmp_ne (tgt := 78) C dX0_isMet_70 (by decide) (fun q265 => ?_) (fun q265 => ?_)
              · refine s_aload_n C dX0_isMet_78 rfl ?_
                refine s_iload_n C dX0_isMet_79 rfl ?_
                refine s_iload C dX0_isMet_80 rfl ?_
                refine s_aload_n C dX0_isMet_82 rfl ?_
                refine s_getr (k := 2) (j := 44) C y32 fw_X0_19 rfl dX0_isMet_83 ?_
                refine s_iload C dX0_isMet_86 rfl ?_
                refine s_iald (r := (τ.1 44 z.toNatClampNeg)) C y44 (by omega) rfl dX0_isMet_88 ?_
                refine s_iconst C dX0_isMet_89 (by decide) (fun z266 tz266 => ?_)
                skip
                refine s_ishr C dX0_isMet_90 (fun z267 tz267 => ?_)
                refine s_callSI (st := [.int t, .ref (ad 54)]) C (c_X0_unit l ad τ a z10 z267 (by omega) hg (fun h => by have hp := hXτ.C1.2.2 z.toNatClampNeg; unfold PV at hp; rw [show pOp (τ.1 44 z.toNatClampNeg) = z10 by rw [tz10, ceq (n := 15) tz9]; rfl, show pNm (τ.1 44 z.toNatClampNeg) = z267 by rw [tz267, ceq (n := 4) tz266]; rfl] at hp; exact hp h)) cv_X0_40 rfl rfl ⟨by decide, by decide⟩ (Nat.le_of_ble_eq_true rfl) dX0_isMet_91 ?_
                intro r268 τ269 h270
                obtain ⟨eh270, h270⟩ := h270; replace eh270 := eh270.symm; subst eh270
                refine s_iast C y54 (by omega) dX0_isMet_94 ?_
                refine s_iinc C dX0_isMet_95 rfl (by decide) rfl (by decide) (by omega) (fun z271 tz271 => ?_)
                show WP E ad 98 [some (.ref (ad 32)), some (.ref (ad 1)), some (.int a), some (.ref (ad 54)), some (.int z271), some (.int r187), some (.int z), some (.int z10)] [] (sV τ 54 t.toNatClampNeg r268)
                refine s_goto (tgt := 161) C dX0_isMet_98 (by decide) ?_
                refine s_iinc C dX0_isMet_161 rfl (by decide) rfl (by decide) (by omega) (fun z272 tz272 => ?_)
                show WP E ad 164 [some (.ref (ad 32)), some (.ref (ad 1)), some (.int a), some (.ref (ad 54)), some (.int z271), some (.int r187), some (.int z272), some (.int z10)] [] (sV τ 54 t.toNatClampNeg r268)
                refine s_goto (tgt := 9) C dX0_isMet_164 (by decide) ?_
                refine wp_le (lv' := [some (.ref (ad 32)), some (.ref (ad 1)), some (.int a), some (.ref (ad 54)), some (.int z271), some (.int r187), some (.int z272), none]) ⟨rfl, ⟨rfl, ⟨rfl, ⟨rfl, ⟨rfl, ⟨rfl, ⟨rfl, trivial⟩⟩⟩⟩⟩⟩⟩ ?_
                exact ih (sV τ 54 t.toNatClampNeg r268) z271 r187 z272 (Fr.sV (Fr.tr Fr.rf (Fr.mo kF (by decide) (by decide))) (Or.inl (by decide))) hXτ (by omega) (by omega) (by omega)
              · refine s_iload C dX0_isMet_73 rfl ?_
                refine s_goto (tgt := 94) C dX0_isMet_75 (by decide) ?_
                refine s_iast C y54 (by omega) dX0_isMet_94 ?_
                refine s_iinc C dX0_isMet_95 rfl (by decide) rfl (by decide) (by omega) (fun z273 tz273 => ?_)
                show WP E ad 98 [some (.ref (ad 32)), some (.ref (ad 1)), some (.int a), some (.ref (ad 54)), some (.int z273), some (.int r187), some (.int z), some (.int z10)] [] (sV τ 54 t.toNatClampNeg r187)
                refine s_goto (tgt := 161) C dX0_isMet_98 (by decide) ?_
                refine s_iinc C dX0_isMet_161 rfl (by decide) rfl (by decide) (by omega) (fun z274 tz274 => ?_)
                show WP E ad 164 [some (.ref (ad 32)), some (.ref (ad 1)), some (.int a), some (.ref (ad 54)), some (.int z273), some (.int r187), some (.int z274), some (.int z10)] [] (sV τ 54 t.toNatClampNeg r187)
                refine s_goto (tgt := 9) C dX0_isMet_164 (by decide) ?_
                refine wp_le (lv' := [some (.ref (ad 32)), some (.ref (ad 1)), some (.int a), some (.ref (ad 54)), some (.int z273), some (.int r187), some (.int z274), none]) ⟨rfl, ⟨rfl, ⟨rfl, ⟨rfl, ⟨rfl, ⟨rfl, ⟨rfl, trivial⟩⟩⟩⟩⟩⟩⟩ ?_
                exact ih (sV τ 54 t.toNatClampNeg r187) z273 r187 z274 (Fr.sV (Fr.tr Fr.rf (Fr.mo kF (by decide) (by decide))) (Or.inl (by decide))) hXτ (by omega) (by omega) (by omega)
set_option maxRecDepth 100000 in
theorem c_X0_isMet_1 (l : Launch) (ad : Nat → Nat) (σ : Sg) (a : Int32) (hX : IX σ.1) (hg : GR a) : Mt l yX0_isMet cX0_isMet 8 (some .boolean) 3 ad σ [.ref (ad 32), .ref (ad 1), .int a, .ref (ad 54)] (oI (fun r τ => Fr [54] [] σ τ ∧ (r.toInt = 0 ∨ r.toInt = 1))) := by
  refine Mt_intro (by decide +kernel) (by simp [lg_sl, Value.category]) (fun E C X => ?_)
  show WP E ad 0 [some (.ref (ad 32)), some (.ref (ad 1)), some (.int a), some (.ref (ad 54)), none, none, none, none] [] σ
  refine s_iconst C dX0_isMet_0 (by decide) (fun z1 tz1 => ?_)
  refine s_istore C dX0_isMet_1 (by decide) (Nat.le_of_ble_eq_true rfl) rfl ?_
  show WP E ad 3 [some (.ref (ad 32)), some (.ref (ad 1)), some (.int a), some (.ref (ad 54)), some (.int z1), none, none, none] [] σ
  refine s_iconst C dX0_isMet_3 (by decide) (fun z2 tz2 => ?_)
  refine s_istore C dX0_isMet_4 (by decide) (Nat.le_of_ble_eq_true rfl) rfl ?_
  show WP E ad 6 [some (.ref (ad 32)), some (.ref (ad 1)), some (.int a), some (.ref (ad 54)), some (.int z1), some (.int z2), none, none] [] σ
  refine s_iconst C dX0_isMet_6 (by decide) (fun z3 tz3 => ?_)
  refine s_istore C dX0_isMet_7 (by decide) (Nat.le_of_ble_eq_true rfl) rfl ?_
  show WP E ad 9 [some (.ref (ad 32)), some (.ref (ad 1)), some (.int a), some (.ref (ad 54)), some (.int z1), some (.int z2), some (.int z3), none] [] σ
  exact L_isMet_1 l ad E σ a hg C X 100 σ z1 z2 z3 Fr.rf hX (by omega) (by omega) (by omega)
set_option maxRecDepth 100000 in
theorem L_isMet_2 (l : Launch) (ad : Nat → Nat) (E : Ev) (σ : Sg) (a : Int32) (hg : GR a) (C : Cx E l (rmk 3) 8 cX0_isMet RX0) (X : Rx E ad (some .boolean) (oI (fun r τ => Fr [57] [] σ τ ∧ (r.toInt = 0 ∨ r.toInt = 1))))  : ∀ (n : Nat) (τ : Sg) (t : Int32) (u : Int32) (z : Int32), (Fr [57] [] σ τ) → (IX τ.1) → (0 ≤ t.toInt ∧ t.toInt ≤ 60) → (0 ≤ z.toInt) → (60 - z.toInt).toNat < n → WP E ad 9 [some (.ref (ad 33)), some (.ref (ad 1)), some (.int a), some (.ref (ad 57)), some (.int t), some (.int u), some (.int z), none] [] τ := by
  intro n
  induction n with
  | zero => intro τ t u z kF hXτ ht h0 hm9; exact absurd hm9 (Nat.not_lt_zero _)
  | succ n ih =>
    intro τ t u z kF hXτ ht h0 hm9
    have hsz := hXτ.C2.2.1
    have hpr := hXτ.pr
    refine s_iload C dX0_isMet_9 rfl ?_
    refine s_aload_n C dX0_isMet_11 rfl ?_
    refine s_get (k := 1) (x := (τ.1 33 1)) C y33 fw_X0_15 rfl rfl dX0_isMet_12 ?_
    refine s_icmp_ge (tgt := 167) C dX0_isMet_15 (by decide) (fun q1 => ?_) (fun q1 => ?_)
    · refine s_iload C dX0_isMet_167 rfl ?_
      refine s_if_le (tgt := 183) C dX0_isMet_169 (by decide) (fun q2 => ?_) (fun q2 => ?_)
      · refine s_iconst C dX0_isMet_183 (by decide) (fun z3 tz3 => ?_)
        exact s_zret C (by omega) X dX0_isMet_184 ⟨kF, by omega⟩
      · refine s_aload_n C dX0_isMet_172 rfl ?_
        refine s_iconst C dX0_isMet_173 (by decide) (fun z4 tz4 => ?_)
        refine s_iald (r := (τ.1 57 z4.toNatClampNeg)) C y57 (by omega) rfl dX0_isMet_174 ?_
        refine s_iconst C dX0_isMet_175 (by decide) (fun z5 tz5 => ?_)
        refine s_icmp_ne (tgt := 183) C dX0_isMet_176 (by decide) (fun q6 => ?_) (fun q6 => ?_)
        · refine s_iconst C dX0_isMet_183 (by decide) (fun z7 tz7 => ?_)
          exact s_zret C (by omega) X dX0_isMet_184 ⟨kF, by omega⟩
        · refine s_iconst C dX0_isMet_179 (by decide) (fun z8 tz8 => ?_)
          refine s_goto (tgt := 184) C dX0_isMet_180 (by decide) ?_
          exact s_zret C (by omega) X dX0_isMet_184 ⟨kF, by omega⟩
    · refine s_aload_n C dX0_isMet_18 rfl ?_
      refine s_getr (k := 2) (j := 45) C y33 fw_X0_19 rfl dX0_isMet_19 ?_
      refine s_iload C dX0_isMet_22 rfl ?_
      refine s_iald (r := (τ.1 45 z.toNatClampNeg)) C y45 (by omega) rfl dX0_isMet_24 ?_
      refine s_bipush C dX0_isMet_25 (by decide) (fun z9 tz9 => ?_)
      skip
      refine s_iand C dX0_isMet_27 (fun z10 tz10 => ?_)
      refine s_istore C dX0_isMet_28 (by decide) (Nat.le_of_ble_eq_true rfl) rfl ?_
      show WP E ad 30 [some (.ref (ad 33)), some (.ref (ad 1)), some (.int a), some (.ref (ad 57)), some (.int t), some (.int u), some (.int z), some (.int z10)] [] τ
      refine s_iload C dX0_isMet_30 rfl ?_
      refine s_iconst C dX0_isMet_32 (by decide) (fun z11 tz11 => ?_)
      refine s_icmp_ne (tgt := 51) C dX0_isMet_33 (by decide) (fun q12 => ?_) (fun q12 => ?_)
      · refine s_iload C dX0_isMet_51 rfl ?_
        refine s_iconst C dX0_isMet_53 (by decide) (fun z13 tz13 => ?_)
        refine s_icmp_gt (tgt := 101) C dX0_isMet_54 (by decide) (fun q14 => ?_) (fun q14 => ?_)
        · refine s_iload C dX0_isMet_101 rfl ?_
          refine s_bipush C dX0_isMet_103 (by decide) (fun z15 tz15 => ?_)
          refine s_icmp_ne (tgt := 131) C dX0_isMet_105 (by decide) (fun q16 => ?_) (fun q16 => ?_)
          · refine s_iload C dX0_isMet_131 rfl ?_
            refine s_iconst C dX0_isMet_133 (by decide) (fun z17 tz17 => ?_)
            refine s_icmp_lt (tgt := 161) C dX0_isMet_134 (by decide) (fun q18 => ?_) (fun q18 => ?_)
            · refine s_iinc C dX0_isMet_161 rfl (by decide) rfl (by decide) (by omega) (fun z19 tz19 => ?_)
              show WP E ad 164 [some (.ref (ad 33)), some (.ref (ad 1)), some (.int a), some (.ref (ad 57)), some (.int t), some (.int u), some (.int z19), some (.int z10)] [] τ
              refine s_goto (tgt := 9) C dX0_isMet_164 (by decide) ?_
              refine wp_le (lv' := [some (.ref (ad 33)), some (.ref (ad 1)), some (.int a), some (.ref (ad 57)), some (.int t), some (.int u), some (.int z19), none]) ⟨rfl, ⟨rfl, ⟨rfl, ⟨rfl, ⟨rfl, ⟨rfl, ⟨rfl, trivial⟩⟩⟩⟩⟩⟩⟩ ?_
              exact ih τ t u z19 (Fr.tr Fr.rf (Fr.mo kF (by decide) (by decide))) hXτ (by omega) (by omega) (by omega)
            · refine s_iinc C dX0_isMet_137 rfl (by decide) rfl (by decide) (by omega) (fun z20 tz20 => ?_)
              show WP E ad 140 [some (.ref (ad 33)), some (.ref (ad 1)), some (.int a), some (.ref (ad 57)), some (.int z20), some (.int u), some (.int z), some (.int z10)] [] τ
              refine s_aload_n C dX0_isMet_140 rfl ?_
              refine s_iload C dX0_isMet_141 rfl ?_
              refine s_iconst C dX0_isMet_143 (by decide) (fun z21 tz21 => ?_)
              refine s_isub C dX0_isMet_144 (by omega) (fun z22 tz22 => ?_)
              refine s_iload C dX0_isMet_145 rfl ?_
              refine s_aload_n C dX0_isMet_147 rfl ?_
              refine s_iload C dX0_isMet_148 rfl ?_
              refine s_iconst C dX0_isMet_150 (by decide) (fun z23 tz23 => ?_)
              refine s_isub C dX0_isMet_151 (by omega) (fun z24 tz24 => ?_)
              refine s_iald (r := (τ.1 57 z24.toNatClampNeg)) C y57 (by omega) rfl dX0_isMet_152 ?_
              refine s_aload_n C dX0_isMet_153 rfl ?_
              refine s_iload C dX0_isMet_154 rfl ?_
              refine s_iald (r := (τ.1 57 z20.toNatClampNeg)) C y57 (by omega) rfl dX0_isMet_156 ?_
              refine s_callSI (st := [.int z22, .ref (ad 57)]) C (c_X0_combined l ad τ z10 ((τ.1 57 z24.toNatClampNeg)) ((τ.1 57 z20.toNatClampNeg)) ) cv_X0_44 rfl rfl ⟨by decide, by decide⟩ (Nat.le_of_ble_eq_true rfl) dX0_isMet_157 ?_
              intro r25 τ26 h27
              obtain ⟨eh27, h27⟩ := h27; replace eh27 := eh27.symm; subst eh27
              refine s_iast C y57 (by omega) dX0_isMet_160 ?_
              refine s_iinc C dX0_isMet_161 rfl (by decide) rfl (by decide) (by omega) (fun z28 tz28 => ?_)
              show WP E ad 164 [some (.ref (ad 33)), some (.ref (ad 1)), some (.int a), some (.ref (ad 57)), some (.int z20), some (.int u), some (.int z28), some (.int z10)] [] (sV τ 57 z22.toNatClampNeg r25)
              refine s_goto (tgt := 9) C dX0_isMet_164 (by decide) ?_
              refine wp_le (lv' := [some (.ref (ad 33)), some (.ref (ad 1)), some (.int a), some (.ref (ad 57)), some (.int z20), some (.int u), some (.int z28), none]) ⟨rfl, ⟨rfl, ⟨rfl, ⟨rfl, ⟨rfl, ⟨rfl, ⟨rfl, trivial⟩⟩⟩⟩⟩⟩⟩ ?_
              exact ih (sV τ 57 z22.toNatClampNeg r25) z20 u z28 (Fr.sV (Fr.tr Fr.rf (Fr.mo kF (by decide) (by decide))) (Or.inl (by decide))) hXτ (by omega) (by omega) (by omega)
          · refine s_iload C dX0_isMet_108 rfl ?_
            refine s_iconst C dX0_isMet_110 (by decide) (fun z29 tz29 => ?_)
            refine s_icmp_lt (tgt := 131) C dX0_isMet_111 (by decide) (fun q30 => ?_) (fun q30 => ?_)
            · refine s_iload C dX0_isMet_131 rfl ?_
              refine s_iconst C dX0_isMet_133 (by decide) (fun z31 tz31 => ?_)
              refine s_icmp_lt (tgt := 161) C dX0_isMet_134 (by decide) (fun q32 => ?_) (fun q32 => ?_)
              · refine s_iinc C dX0_isMet_161 rfl (by decide) rfl (by decide) (by omega) (fun z33 tz33 => ?_)
                show WP E ad 164 [some (.ref (ad 33)), some (.ref (ad 1)), some (.int a), some (.ref (ad 57)), some (.int t), some (.int u), some (.int z33), some (.int z10)] [] τ
                refine s_goto (tgt := 9) C dX0_isMet_164 (by decide) ?_
                refine wp_le (lv' := [some (.ref (ad 33)), some (.ref (ad 1)), some (.int a), some (.ref (ad 57)), some (.int t), some (.int u), some (.int z33), none]) ⟨rfl, ⟨rfl, ⟨rfl, ⟨rfl, ⟨rfl, ⟨rfl, ⟨rfl, trivial⟩⟩⟩⟩⟩⟩⟩ ?_
                exact ih τ t u z33 (Fr.tr Fr.rf (Fr.mo kF (by decide) (by decide))) hXτ (by omega) (by omega) (by omega)
              · refine s_iinc C dX0_isMet_137 rfl (by decide) rfl (by decide) (by omega) (fun z34 tz34 => ?_)
                show WP E ad 140 [some (.ref (ad 33)), some (.ref (ad 1)), some (.int a), some (.ref (ad 57)), some (.int z34), some (.int u), some (.int z), some (.int z10)] [] τ
                refine s_aload_n C dX0_isMet_140 rfl ?_
                refine s_iload C dX0_isMet_141 rfl ?_
                refine s_iconst C dX0_isMet_143 (by decide) (fun z35 tz35 => ?_)
                refine s_isub C dX0_isMet_144 (by omega) (fun z36 tz36 => ?_)
                refine s_iload C dX0_isMet_145 rfl ?_
                refine s_aload_n C dX0_isMet_147 rfl ?_
                refine s_iload C dX0_isMet_148 rfl ?_
                refine s_iconst C dX0_isMet_150 (by decide) (fun z37 tz37 => ?_)
                refine s_isub C dX0_isMet_151 (by omega) (fun z38 tz38 => ?_)
                refine s_iald (r := (τ.1 57 z38.toNatClampNeg)) C y57 (by omega) rfl dX0_isMet_152 ?_
                refine s_aload_n C dX0_isMet_153 rfl ?_
                refine s_iload C dX0_isMet_154 rfl ?_
                refine s_iald (r := (τ.1 57 z34.toNatClampNeg)) C y57 (by omega) rfl dX0_isMet_156 ?_
                refine s_callSI (st := [.int z36, .ref (ad 57)]) C (c_X0_combined l ad τ z10 ((τ.1 57 z38.toNatClampNeg)) ((τ.1 57 z34.toNatClampNeg)) ) cv_X0_44 rfl rfl ⟨by decide, by decide⟩ (Nat.le_of_ble_eq_true rfl) dX0_isMet_157 ?_
                intro r39 τ40 h41
                obtain ⟨eh41, h41⟩ := h41; replace eh41 := eh41.symm; subst eh41
                refine s_iast C y57 (by omega) dX0_isMet_160 ?_
                refine s_iinc C dX0_isMet_161 rfl (by decide) rfl (by decide) (by omega) (fun z42 tz42 => ?_)
                show WP E ad 164 [some (.ref (ad 33)), some (.ref (ad 1)), some (.int a), some (.ref (ad 57)), some (.int z34), some (.int u), some (.int z42), some (.int z10)] [] (sV τ 57 z36.toNatClampNeg r39)
                refine s_goto (tgt := 9) C dX0_isMet_164 (by decide) ?_
                refine wp_le (lv' := [some (.ref (ad 33)), some (.ref (ad 1)), some (.int a), some (.ref (ad 57)), some (.int z34), some (.int u), some (.int z42), none]) ⟨rfl, ⟨rfl, ⟨rfl, ⟨rfl, ⟨rfl, ⟨rfl, ⟨rfl, trivial⟩⟩⟩⟩⟩⟩⟩ ?_
                exact ih (sV τ 57 z36.toNatClampNeg r39) z34 u z42 (Fr.sV (Fr.tr Fr.rf (Fr.mo kF (by decide) (by decide))) (Or.inl (by decide))) hXτ (by omega) (by omega) (by omega)
            · refine s_aload_n C dX0_isMet_114 rfl ?_
              refine s_iload C dX0_isMet_115 rfl ?_
              refine s_iconst C dX0_isMet_117 (by decide) (fun z43 tz43 => ?_)
              refine s_isub C dX0_isMet_118 (by omega) (fun z44 tz44 => ?_)
              refine s_iconst C dX0_isMet_119 (by decide) (fun z45 tz45 => ?_)
              refine s_aload_n C dX0_isMet_120 rfl ?_
              refine s_iload C dX0_isMet_121 rfl ?_
              refine s_iconst C dX0_isMet_123 (by decide) (fun z46 tz46 => ?_)
              refine s_isub C dX0_isMet_124 (by omega) (fun z47 tz47 => ?_)
              refine s_iald (r := (τ.1 57 z47.toNatClampNeg)) C y57 (by omega) rfl dX0_isMet_125 ?_
              refine s_isubU C dX0_isMet_126 (fun z48 tz48 => ?_)
              refine s_iast C y57 (by omega) dX0_isMet_127 ?_
              refine s_goto (tgt := 161) C dX0_isMet_128 (by decide) ?_
              refine s_iinc C dX0_isMet_161 rfl (by decide) rfl (by decide) (by omega) (fun z49 tz49 => ?_)
              show WP E ad 164 [some (.ref (ad 33)), some (.ref (ad 1)), some (.int a), some (.ref (ad 57)), some (.int t), some (.int u), some (.int z49), some (.int z10)] [] (sV τ 57 z44.toNatClampNeg z48)
              refine s_goto (tgt := 9) C dX0_isMet_164 (by decide) ?_
              refine wp_le (lv' := [some (.ref (ad 33)), some (.ref (ad 1)), some (.int a), some (.ref (ad 57)), some (.int t), some (.int u), some (.int z49), none]) ⟨rfl, ⟨rfl, ⟨rfl, ⟨rfl, ⟨rfl, ⟨rfl, ⟨rfl, trivial⟩⟩⟩⟩⟩⟩⟩ ?_
              exact ih (sV τ 57 z44.toNatClampNeg z48) t u z49 (Fr.sV (Fr.tr Fr.rf (Fr.mo kF (by decide) (by decide))) (Or.inl (by decide))) hXτ (by omega) (by omega) (by omega)
        · refine s_iload C dX0_isMet_57 rfl ?_
          refine s_aload_n C dX0_isMet_59 rfl ?_
          refine s_alen0 C y57 (by omega) dX0_isMet_60 (fun z50 tz50 => ?_)
          refine s_icmp_ge (tgt := 101) C dX0_isMet_61 (by decide) (fun q51 => ?_) (fun q51 => ?_)
          · refine s_iload C dX0_isMet_101 rfl ?_
            refine s_bipush C dX0_isMet_103 (by decide) (fun z52 tz52 => ?_)
            refine s_icmp_ne (tgt := 131) C dX0_isMet_105 (by decide) (fun q53 => ?_) (fun q53 => ?_)
            · refine s_iload C dX0_isMet_131 rfl ?_
              refine s_iconst C dX0_isMet_133 (by decide) (fun z54 tz54 => ?_)
              refine s_icmp_lt (tgt := 161) C dX0_isMet_134 (by decide) (fun q55 => ?_) (fun q55 => ?_)
              · refine s_iinc C dX0_isMet_161 rfl (by decide) rfl (by decide) (by omega) (fun z56 tz56 => ?_)
                show WP E ad 164 [some (.ref (ad 33)), some (.ref (ad 1)), some (.int a), some (.ref (ad 57)), some (.int t), some (.int u), some (.int z56), some (.int z10)] [] τ
                refine s_goto (tgt := 9) C dX0_isMet_164 (by decide) ?_
                refine wp_le (lv' := [some (.ref (ad 33)), some (.ref (ad 1)), some (.int a), some (.ref (ad 57)), some (.int t), some (.int u), some (.int z56), none]) ⟨rfl, ⟨rfl, ⟨rfl, ⟨rfl, ⟨rfl, ⟨rfl, ⟨rfl, trivial⟩⟩⟩⟩⟩⟩⟩ ?_
                exact ih τ t u z56 (Fr.tr Fr.rf (Fr.mo kF (by decide) (by decide))) hXτ (by omega) (by omega) (by omega)
              · refine s_iinc C dX0_isMet_137 rfl (by decide) rfl (by decide) (by omega) (fun z57 tz57 => ?_)
                show WP E ad 140 [some (.ref (ad 33)), some (.ref (ad 1)), some (.int a), some (.ref (ad 57)), some (.int z57), some (.int u), some (.int z), some (.int z10)] [] τ
                refine s_aload_n C dX0_isMet_140 rfl ?_
                refine s_iload C dX0_isMet_141 rfl ?_
                refine s_iconst C dX0_isMet_143 (by decide) (fun z58 tz58 => ?_)
                refine s_isub C dX0_isMet_144 (by omega) (fun z59 tz59 => ?_)
                refine s_iload C dX0_isMet_145 rfl ?_
                refine s_aload_n C dX0_isMet_147 rfl ?_
                refine s_iload C dX0_isMet_148 rfl ?_
                refine s_iconst C dX0_isMet_150 (by decide) (fun z60 tz60 => ?_)
                refine s_isub C dX0_isMet_151 (by omega) (fun z61 tz61 => ?_)
                refine s_iald (r := (τ.1 57 z61.toNatClampNeg)) C y57 (by omega) rfl dX0_isMet_152 ?_
                refine s_aload_n C dX0_isMet_153 rfl ?_
                refine s_iload C dX0_isMet_154 rfl ?_
                refine s_iald (r := (τ.1 57 z57.toNatClampNeg)) C y57 (by omega) rfl dX0_isMet_156 ?_
                refine s_callSI (st := [.int z59, .ref (ad 57)]) C (c_X0_combined l ad τ z10 ((τ.1 57 z61.toNatClampNeg)) ((τ.1 57 z57.toNatClampNeg)) ) cv_X0_44 rfl rfl ⟨by decide, by decide⟩ (Nat.le_of_ble_eq_true rfl) dX0_isMet_157 ?_
                intro r62 τ63 h64
                obtain ⟨eh64, h64⟩ := h64; replace eh64 := eh64.symm; subst eh64
                refine s_iast C y57 (by omega) dX0_isMet_160 ?_
                refine s_iinc C dX0_isMet_161 rfl (by decide) rfl (by decide) (by omega) (fun z65 tz65 => ?_)
                show WP E ad 164 [some (.ref (ad 33)), some (.ref (ad 1)), some (.int a), some (.ref (ad 57)), some (.int z57), some (.int u), some (.int z65), some (.int z10)] [] (sV τ 57 z59.toNatClampNeg r62)
                refine s_goto (tgt := 9) C dX0_isMet_164 (by decide) ?_
                refine wp_le (lv' := [some (.ref (ad 33)), some (.ref (ad 1)), some (.int a), some (.ref (ad 57)), some (.int z57), some (.int u), some (.int z65), none]) ⟨rfl, ⟨rfl, ⟨rfl, ⟨rfl, ⟨rfl, ⟨rfl, ⟨rfl, trivial⟩⟩⟩⟩⟩⟩⟩ ?_
                exact ih (sV τ 57 z59.toNatClampNeg r62) z57 u z65 (Fr.sV (Fr.tr Fr.rf (Fr.mo kF (by decide) (by decide))) (Or.inl (by decide))) hXτ (by omega) (by omega) (by omega)
            · refine s_iload C dX0_isMet_108 rfl ?_
              refine s_iconst C dX0_isMet_110 (by decide) (fun z66 tz66 => ?_)
              refine s_icmp_lt (tgt := 131) C dX0_isMet_111 (by decide) (fun q67 => ?_) (fun q67 => ?_)
              · refine s_iload C dX0_isMet_131 rfl ?_
                refine s_iconst C dX0_isMet_133 (by decide) (fun z68 tz68 => ?_)
                refine s_icmp_lt (tgt := 161) C dX0_isMet_134 (by decide) (fun q69 => ?_) (fun q69 => ?_)
                · refine s_iinc C dX0_isMet_161 rfl (by decide) rfl (by decide) (by omega) (fun z70 tz70 => ?_)
                  show WP E ad 164 [some (.ref (ad 33)), some (.ref (ad 1)), some (.int a), some (.ref (ad 57)), some (.int t), some (.int u), some (.int z70), some (.int z10)] [] τ
                  refine s_goto (tgt := 9) C dX0_isMet_164 (by decide) ?_
                  refine wp_le (lv' := [some (.ref (ad 33)), some (.ref (ad 1)), some (.int a), some (.ref (ad 57)), some (.int t), some (.int u), some (.int z70), none]) ⟨rfl, ⟨rfl, ⟨rfl, ⟨rfl, ⟨rfl, ⟨rfl, ⟨rfl, trivial⟩⟩⟩⟩⟩⟩⟩ ?_
                  exact ih τ t u z70 (Fr.tr Fr.rf (Fr.mo kF (by decide) (by decide))) hXτ (by omega) (by omega) (by omega)
                · refine s_iinc C dX0_isMet_137 rfl (by decide) rfl (by decide) (by omega) (fun z71 tz71 => ?_)
                  show WP E ad 140 [some (.ref (ad 33)), some (.ref (ad 1)), some (.int a), some (.ref (ad 57)), some (.int z71), some (.int u), some (.int z), some (.int z10)] [] τ
                  refine s_aload_n C dX0_isMet_140 rfl ?_
                  refine s_iload C dX0_isMet_141 rfl ?_
                  refine s_iconst C dX0_isMet_143 (by decide) (fun z72 tz72 => ?_)
                  refine s_isub C dX0_isMet_144 (by omega) (fun z73 tz73 => ?_)
                  refine s_iload C dX0_isMet_145 rfl ?_
                  refine s_aload_n C dX0_isMet_147 rfl ?_
                  refine s_iload C dX0_isMet_148 rfl ?_
                  refine s_iconst C dX0_isMet_150 (by decide) (fun z74 tz74 => ?_)
                  refine s_isub C dX0_isMet_151 (by omega) (fun z75 tz75 => ?_)
                  refine s_iald (r := (τ.1 57 z75.toNatClampNeg)) C y57 (by omega) rfl dX0_isMet_152 ?_
                  refine s_aload_n C dX0_isMet_153 rfl ?_
                  refine s_iload C dX0_isMet_154 rfl ?_
                  refine s_iald (r := (τ.1 57 z71.toNatClampNeg)) C y57 (by omega) rfl dX0_isMet_156 ?_
                  refine s_callSI (st := [.int z73, .ref (ad 57)]) C (c_X0_combined l ad τ z10 ((τ.1 57 z75.toNatClampNeg)) ((τ.1 57 z71.toNatClampNeg)) ) cv_X0_44 rfl rfl ⟨by decide, by decide⟩ (Nat.le_of_ble_eq_true rfl) dX0_isMet_157 ?_
                  intro r76 τ77 h78
                  obtain ⟨eh78, h78⟩ := h78; replace eh78 := eh78.symm; subst eh78
                  refine s_iast C y57 (by omega) dX0_isMet_160 ?_
                  refine s_iinc C dX0_isMet_161 rfl (by decide) rfl (by decide) (by omega) (fun z79 tz79 => ?_)
                  show WP E ad 164 [some (.ref (ad 33)), some (.ref (ad 1)), some (.int a), some (.ref (ad 57)), some (.int z71), some (.int u), some (.int z79), some (.int z10)] [] (sV τ 57 z73.toNatClampNeg r76)
                  refine s_goto (tgt := 9) C dX0_isMet_164 (by decide) ?_
                  refine wp_le (lv' := [some (.ref (ad 33)), some (.ref (ad 1)), some (.int a), some (.ref (ad 57)), some (.int z71), some (.int u), some (.int z79), none]) ⟨rfl, ⟨rfl, ⟨rfl, ⟨rfl, ⟨rfl, ⟨rfl, ⟨rfl, trivial⟩⟩⟩⟩⟩⟩⟩ ?_
                  exact ih (sV τ 57 z73.toNatClampNeg r76) z71 u z79 (Fr.sV (Fr.tr Fr.rf (Fr.mo kF (by decide) (by decide))) (Or.inl (by decide))) hXτ (by omega) (by omega) (by omega)
              · refine s_aload_n C dX0_isMet_114 rfl ?_
                refine s_iload C dX0_isMet_115 rfl ?_
                refine s_iconst C dX0_isMet_117 (by decide) (fun z80 tz80 => ?_)
                refine s_isub C dX0_isMet_118 (by omega) (fun z81 tz81 => ?_)
                refine s_iconst C dX0_isMet_119 (by decide) (fun z82 tz82 => ?_)
                refine s_aload_n C dX0_isMet_120 rfl ?_
                refine s_iload C dX0_isMet_121 rfl ?_
                refine s_iconst C dX0_isMet_123 (by decide) (fun z83 tz83 => ?_)
                refine s_isub C dX0_isMet_124 (by omega) (fun z84 tz84 => ?_)
                refine s_iald (r := (τ.1 57 z84.toNatClampNeg)) C y57 (by omega) rfl dX0_isMet_125 ?_
                refine s_isubU C dX0_isMet_126 (fun z85 tz85 => ?_)
                refine s_iast C y57 (by omega) dX0_isMet_127 ?_
                refine s_goto (tgt := 161) C dX0_isMet_128 (by decide) ?_
                refine s_iinc C dX0_isMet_161 rfl (by decide) rfl (by decide) (by omega) (fun z86 tz86 => ?_)
                show WP E ad 164 [some (.ref (ad 33)), some (.ref (ad 1)), some (.int a), some (.ref (ad 57)), some (.int t), some (.int u), some (.int z86), some (.int z10)] [] (sV τ 57 z81.toNatClampNeg z85)
                refine s_goto (tgt := 9) C dX0_isMet_164 (by decide) ?_
                refine wp_le (lv' := [some (.ref (ad 33)), some (.ref (ad 1)), some (.int a), some (.ref (ad 57)), some (.int t), some (.int u), some (.int z86), none]) ⟨rfl, ⟨rfl, ⟨rfl, ⟨rfl, ⟨rfl, ⟨rfl, ⟨rfl, trivial⟩⟩⟩⟩⟩⟩⟩ ?_
                exact ih (sV τ 57 z81.toNatClampNeg z85) t u z86 (Fr.sV (Fr.tr Fr.rf (Fr.mo kF (by decide) (by decide))) (Or.inl (by decide))) hXτ (by omega) (by omega) (by omega)
          · refine s_aload_n C dX0_isMet_64 rfl ?_
            refine s_iload C dX0_isMet_65 rfl ?_
            refine s_iload C dX0_isMet_67 rfl ?_
            refine s_iconst C dX0_isMet_69 (by decide) (fun z87 tz87 => ?_)
            refine s_icmp_ne (tgt := 78) C dX0_isMet_70 (by decide) (fun q88 => ?_) (fun q88 => ?_)
            · refine s_aload_n C dX0_isMet_78 rfl ?_
              refine s_iload_n C dX0_isMet_79 rfl ?_
              refine s_iload C dX0_isMet_80 rfl ?_
              refine s_aload_n C dX0_isMet_82 rfl ?_
              refine s_getr (k := 2) (j := 45) C y33 fw_X0_19 rfl dX0_isMet_83 ?_
              refine s_iload C dX0_isMet_86 rfl ?_
              refine s_iald (r := (τ.1 45 z.toNatClampNeg)) C y45 (by omega) rfl dX0_isMet_88 ?_
              refine s_iconst C dX0_isMet_89 (by decide) (fun z89 tz89 => ?_)
              skip
              refine s_ishr C dX0_isMet_90 (fun z90 tz90 => ?_)
              refine s_callSI (st := [.int t, .ref (ad 57)]) C (c_X0_unit l ad τ a z10 z90 (by omega) hg (fun h => by have hp := hXτ.C2.2.2 z.toNatClampNeg; unfold PV at hp; rw [show pOp (τ.1 45 z.toNatClampNeg) = z10 by rw [tz10, ceq (n := 15) tz9]; rfl, show pNm (τ.1 45 z.toNatClampNeg) = z90 by rw [tz90, ceq (n := 4) tz89]; rfl] at hp; exact hp h)) cv_X0_40 rfl rfl ⟨by decide, by decide⟩ (Nat.le_of_ble_eq_true rfl) dX0_isMet_91 ?_
              intro r91 τ92 h93
              obtain ⟨eh93, h93⟩ := h93; replace eh93 := eh93.symm; subst eh93
              refine s_iast C y57 (by omega) dX0_isMet_94 ?_
              refine s_iinc C dX0_isMet_95 rfl (by decide) rfl (by decide) (by omega) (fun z94 tz94 => ?_)
              show WP E ad 98 [some (.ref (ad 33)), some (.ref (ad 1)), some (.int a), some (.ref (ad 57)), some (.int z94), some (.int u), some (.int z), some (.int z10)] [] (sV τ 57 t.toNatClampNeg r91)
              refine s_goto (tgt := 161) C dX0_isMet_98 (by decide) ?_
              refine s_iinc C dX0_isMet_161 rfl (by decide) rfl (by decide) (by omega) (fun z95 tz95 => ?_)
              show WP E ad 164 [some (.ref (ad 33)), some (.ref (ad 1)), some (.int a), some (.ref (ad 57)), some (.int z94), some (.int u), some (.int z95), some (.int z10)] [] (sV τ 57 t.toNatClampNeg r91)
              refine s_goto (tgt := 9) C dX0_isMet_164 (by decide) ?_
              refine wp_le (lv' := [some (.ref (ad 33)), some (.ref (ad 1)), some (.int a), some (.ref (ad 57)), some (.int z94), some (.int u), some (.int z95), none]) ⟨rfl, ⟨rfl, ⟨rfl, ⟨rfl, ⟨rfl, ⟨rfl, ⟨rfl, trivial⟩⟩⟩⟩⟩⟩⟩ ?_
              exact ih (sV τ 57 t.toNatClampNeg r91) z94 u z95 (Fr.sV (Fr.tr Fr.rf (Fr.mo kF (by decide) (by decide))) (Or.inl (by decide))) hXτ (by omega) (by omega) (by omega)
            · refine s_iload C dX0_isMet_73 rfl ?_
              refine s_goto (tgt := 94) C dX0_isMet_75 (by decide) ?_
              refine s_iast C y57 (by omega) dX0_isMet_94 ?_
              refine s_iinc C dX0_isMet_95 rfl (by decide) rfl (by decide) (by omega) (fun z96 tz96 => ?_)
              show WP E ad 98 [some (.ref (ad 33)), some (.ref (ad 1)), some (.int a), some (.ref (ad 57)), some (.int z96), some (.int u), some (.int z), some (.int z10)] [] (sV τ 57 t.toNatClampNeg u)
              refine s_goto (tgt := 161) C dX0_isMet_98 (by decide) ?_
              refine s_iinc C dX0_isMet_161 rfl (by decide) rfl (by decide) (by omega) (fun z97 tz97 => ?_)
              show WP E ad 164 [some (.ref (ad 33)), some (.ref (ad 1)), some (.int a), some (.ref (ad 57)), some (.int z96), some (.int u), some (.int z97), some (.int z10)] [] (sV τ 57 t.toNatClampNeg u)
              refine s_goto (tgt := 9) C dX0_isMet_164 (by decide) ?_
              refine wp_le (lv' := [some (.ref (ad 33)), some (.ref (ad 1)), some (.int a), some (.ref (ad 57)), some (.int z96), some (.int u), some (.int z97), none]) ⟨rfl, ⟨rfl, ⟨rfl, ⟨rfl, ⟨rfl, ⟨rfl, ⟨rfl, trivial⟩⟩⟩⟩⟩⟩⟩ ?_
              exact ih (sV τ 57 t.toNatClampNeg u) z96 u z97 (Fr.sV (Fr.tr Fr.rf (Fr.mo kF (by decide) (by decide))) (Or.inl (by decide))) hXτ (by omega) (by omega) (by omega)
      · refine s_iload C dX0_isMet_36 rfl ?_
        refine s_if_ge (tgt := 51) C dX0_isMet_38 (by decide) (fun q98 => ?_) (fun q98 => ?_)
        · refine s_iload C dX0_isMet_51 rfl ?_
          refine s_iconst C dX0_isMet_53 (by decide) (fun z99 tz99 => ?_)
          refine s_icmp_gt (tgt := 101) C dX0_isMet_54 (by decide) (fun q100 => ?_) (fun q100 => ?_)
          · refine s_iload C dX0_isMet_101 rfl ?_
            refine s_bipush C dX0_isMet_103 (by decide) (fun z101 tz101 => ?_)
            refine s_icmp_ne (tgt := 131) C dX0_isMet_105 (by decide) (fun q102 => ?_) (fun q102 => ?_)
            · refine s_iload C dX0_isMet_131 rfl ?_
              refine s_iconst C dX0_isMet_133 (by decide) (fun z103 tz103 => ?_)
              refine s_icmp_lt (tgt := 161) C dX0_isMet_134 (by decide) (fun q104 => ?_) (fun q104 => ?_)
              · refine s_iinc C dX0_isMet_161 rfl (by decide) rfl (by decide) (by omega) (fun z105 tz105 => ?_)
                show WP E ad 164 [some (.ref (ad 33)), some (.ref (ad 1)), some (.int a), some (.ref (ad 57)), some (.int t), some (.int u), some (.int z105), some (.int z10)] [] τ
                refine s_goto (tgt := 9) C dX0_isMet_164 (by decide) ?_
                refine wp_le (lv' := [some (.ref (ad 33)), some (.ref (ad 1)), some (.int a), some (.ref (ad 57)), some (.int t), some (.int u), some (.int z105), none]) ⟨rfl, ⟨rfl, ⟨rfl, ⟨rfl, ⟨rfl, ⟨rfl, ⟨rfl, trivial⟩⟩⟩⟩⟩⟩⟩ ?_
                exact ih τ t u z105 (Fr.tr Fr.rf (Fr.mo kF (by decide) (by decide))) hXτ (by omega) (by omega) (by omega)
              · refine s_iinc C dX0_isMet_137 rfl (by decide) rfl (by decide) (by omega) (fun z106 tz106 => ?_)
                show WP E ad 140 [some (.ref (ad 33)), some (.ref (ad 1)), some (.int a), some (.ref (ad 57)), some (.int z106), some (.int u), some (.int z), some (.int z10)] [] τ
                refine s_aload_n C dX0_isMet_140 rfl ?_
                refine s_iload C dX0_isMet_141 rfl ?_
                refine s_iconst C dX0_isMet_143 (by decide) (fun z107 tz107 => ?_)
                refine s_isub C dX0_isMet_144 (by omega) (fun z108 tz108 => ?_)
                refine s_iload C dX0_isMet_145 rfl ?_
                refine s_aload_n C dX0_isMet_147 rfl ?_
                refine s_iload C dX0_isMet_148 rfl ?_
                refine s_iconst C dX0_isMet_150 (by decide) (fun z109 tz109 => ?_)
                refine s_isub C dX0_isMet_151 (by omega) (fun z110 tz110 => ?_)
                refine s_iald (r := (τ.1 57 z110.toNatClampNeg)) C y57 (by omega) rfl dX0_isMet_152 ?_
                refine s_aload_n C dX0_isMet_153 rfl ?_
                refine s_iload C dX0_isMet_154 rfl ?_
                refine s_iald (r := (τ.1 57 z106.toNatClampNeg)) C y57 (by omega) rfl dX0_isMet_156 ?_
                refine s_callSI (st := [.int z108, .ref (ad 57)]) C (c_X0_combined l ad τ z10 ((τ.1 57 z110.toNatClampNeg)) ((τ.1 57 z106.toNatClampNeg)) ) cv_X0_44 rfl rfl ⟨by decide, by decide⟩ (Nat.le_of_ble_eq_true rfl) dX0_isMet_157 ?_
                intro r111 τ112 h113
                obtain ⟨eh113, h113⟩ := h113; replace eh113 := eh113.symm; subst eh113
                refine s_iast C y57 (by omega) dX0_isMet_160 ?_
                refine s_iinc C dX0_isMet_161 rfl (by decide) rfl (by decide) (by omega) (fun z114 tz114 => ?_)
                show WP E ad 164 [some (.ref (ad 33)), some (.ref (ad 1)), some (.int a), some (.ref (ad 57)), some (.int z106), some (.int u), some (.int z114), some (.int z10)] [] (sV τ 57 z108.toNatClampNeg r111)
                refine s_goto (tgt := 9) C dX0_isMet_164 (by decide) ?_
                refine wp_le (lv' := [some (.ref (ad 33)), some (.ref (ad 1)), some (.int a), some (.ref (ad 57)), some (.int z106), some (.int u), some (.int z114), none]) ⟨rfl, ⟨rfl, ⟨rfl, ⟨rfl, ⟨rfl, ⟨rfl, ⟨rfl, trivial⟩⟩⟩⟩⟩⟩⟩ ?_
                exact ih (sV τ 57 z108.toNatClampNeg r111) z106 u z114 (Fr.sV (Fr.tr Fr.rf (Fr.mo kF (by decide) (by decide))) (Or.inl (by decide))) hXτ (by omega) (by omega) (by omega)
            · refine s_iload C dX0_isMet_108 rfl ?_
              refine s_iconst C dX0_isMet_110 (by decide) (fun z115 tz115 => ?_)
              refine s_icmp_lt (tgt := 131) C dX0_isMet_111 (by decide) (fun q116 => ?_) (fun q116 => ?_)
              · refine s_iload C dX0_isMet_131 rfl ?_
                refine s_iconst C dX0_isMet_133 (by decide) (fun z117 tz117 => ?_)
                refine s_icmp_lt (tgt := 161) C dX0_isMet_134 (by decide) (fun q118 => ?_) (fun q118 => ?_)
                · refine s_iinc C dX0_isMet_161 rfl (by decide) rfl (by decide) (by omega) (fun z119 tz119 => ?_)
                  show WP E ad 164 [some (.ref (ad 33)), some (.ref (ad 1)), some (.int a), some (.ref (ad 57)), some (.int t), some (.int u), some (.int z119), some (.int z10)] [] τ
                  refine s_goto (tgt := 9) C dX0_isMet_164 (by decide) ?_
                  refine wp_le (lv' := [some (.ref (ad 33)), some (.ref (ad 1)), some (.int a), some (.ref (ad 57)), some (.int t), some (.int u), some (.int z119), none]) ⟨rfl, ⟨rfl, ⟨rfl, ⟨rfl, ⟨rfl, ⟨rfl, ⟨rfl, trivial⟩⟩⟩⟩⟩⟩⟩ ?_
                  exact ih τ t u z119 (Fr.tr Fr.rf (Fr.mo kF (by decide) (by decide))) hXτ (by omega) (by omega) (by omega)
                · refine s_iinc C dX0_isMet_137 rfl (by decide) rfl (by decide) (by omega) (fun z120 tz120 => ?_)
                  show WP E ad 140 [some (.ref (ad 33)), some (.ref (ad 1)), some (.int a), some (.ref (ad 57)), some (.int z120), some (.int u), some (.int z), some (.int z10)] [] τ
                  refine s_aload_n C dX0_isMet_140 rfl ?_
                  refine s_iload C dX0_isMet_141 rfl ?_
                  refine s_iconst C dX0_isMet_143 (by decide) (fun z121 tz121 => ?_)
                  refine s_isub C dX0_isMet_144 (by omega) (fun z122 tz122 => ?_)
                  refine s_iload C dX0_isMet_145 rfl ?_
                  refine s_aload_n C dX0_isMet_147 rfl ?_
                  refine s_iload C dX0_isMet_148 rfl ?_
                  refine s_iconst C dX0_isMet_150 (by decide) (fun z123 tz123 => ?_)
                  refine s_isub C dX0_isMet_151 (by omega) (fun z124 tz124 => ?_)
                  refine s_iald (r := (τ.1 57 z124.toNatClampNeg)) C y57 (by omega) rfl dX0_isMet_152 ?_
                  refine s_aload_n C dX0_isMet_153 rfl ?_
                  refine s_iload C dX0_isMet_154 rfl ?_
                  refine s_iald (r := (τ.1 57 z120.toNatClampNeg)) C y57 (by omega) rfl dX0_isMet_156 ?_
                  refine s_callSI (st := [.int z122, .ref (ad 57)]) C (c_X0_combined l ad τ z10 ((τ.1 57 z124.toNatClampNeg)) ((τ.1 57 z120.toNatClampNeg)) ) cv_X0_44 rfl rfl ⟨by decide, by decide⟩ (Nat.le_of_ble_eq_true rfl) dX0_isMet_157 ?_
                  intro r125 τ126 h127
                  obtain ⟨eh127, h127⟩ := h127; replace eh127 := eh127.symm; subst eh127
                  refine s_iast C y57 (by omega) dX0_isMet_160 ?_
                  refine s_iinc C dX0_isMet_161 rfl (by decide) rfl (by decide) (by omega) (fun z128 tz128 => ?_)
                  show WP E ad 164 [some (.ref (ad 33)), some (.ref (ad 1)), some (.int a), some (.ref (ad 57)), some (.int z120), some (.int u), some (.int z128), some (.int z10)] [] (sV τ 57 z122.toNatClampNeg r125)
                  refine s_goto (tgt := 9) C dX0_isMet_164 (by decide) ?_
                  refine wp_le (lv' := [some (.ref (ad 33)), some (.ref (ad 1)), some (.int a), some (.ref (ad 57)), some (.int z120), some (.int u), some (.int z128), none]) ⟨rfl, ⟨rfl, ⟨rfl, ⟨rfl, ⟨rfl, ⟨rfl, ⟨rfl, trivial⟩⟩⟩⟩⟩⟩⟩ ?_
                  exact ih (sV τ 57 z122.toNatClampNeg r125) z120 u z128 (Fr.sV (Fr.tr Fr.rf (Fr.mo kF (by decide) (by decide))) (Or.inl (by decide))) hXτ (by omega) (by omega) (by omega)
              · refine s_aload_n C dX0_isMet_114 rfl ?_
                refine s_iload C dX0_isMet_115 rfl ?_
                refine s_iconst C dX0_isMet_117 (by decide) (fun z129 tz129 => ?_)
                refine s_isub C dX0_isMet_118 (by omega) (fun z130 tz130 => ?_)
                refine s_iconst C dX0_isMet_119 (by decide) (fun z131 tz131 => ?_)
                refine s_aload_n C dX0_isMet_120 rfl ?_
                refine s_iload C dX0_isMet_121 rfl ?_
                refine s_iconst C dX0_isMet_123 (by decide) (fun z132 tz132 => ?_)
                refine s_isub C dX0_isMet_124 (by omega) (fun z133 tz133 => ?_)
                refine s_iald (r := (τ.1 57 z133.toNatClampNeg)) C y57 (by omega) rfl dX0_isMet_125 ?_
                refine s_isubU C dX0_isMet_126 (fun z134 tz134 => ?_)
                refine s_iast C y57 (by omega) dX0_isMet_127 ?_
                refine s_goto (tgt := 161) C dX0_isMet_128 (by decide) ?_
                refine s_iinc C dX0_isMet_161 rfl (by decide) rfl (by decide) (by omega) (fun z135 tz135 => ?_)
                show WP E ad 164 [some (.ref (ad 33)), some (.ref (ad 1)), some (.int a), some (.ref (ad 57)), some (.int t), some (.int u), some (.int z135), some (.int z10)] [] (sV τ 57 z130.toNatClampNeg z134)
                refine s_goto (tgt := 9) C dX0_isMet_164 (by decide) ?_
                refine wp_le (lv' := [some (.ref (ad 33)), some (.ref (ad 1)), some (.int a), some (.ref (ad 57)), some (.int t), some (.int u), some (.int z135), none]) ⟨rfl, ⟨rfl, ⟨rfl, ⟨rfl, ⟨rfl, ⟨rfl, ⟨rfl, trivial⟩⟩⟩⟩⟩⟩⟩ ?_
                exact ih (sV τ 57 z130.toNatClampNeg z134) t u z135 (Fr.sV (Fr.tr Fr.rf (Fr.mo kF (by decide) (by decide))) (Or.inl (by decide))) hXτ (by omega) (by omega) (by omega)
          · refine s_iload C dX0_isMet_57 rfl ?_
            refine s_aload_n C dX0_isMet_59 rfl ?_
            refine s_alen0 C y57 (by omega) dX0_isMet_60 (fun z136 tz136 => ?_)
            refine s_icmp_ge (tgt := 101) C dX0_isMet_61 (by decide) (fun q137 => ?_) (fun q137 => ?_)
            · refine s_iload C dX0_isMet_101 rfl ?_
              refine s_bipush C dX0_isMet_103 (by decide) (fun z138 tz138 => ?_)
              refine s_icmp_ne (tgt := 131) C dX0_isMet_105 (by decide) (fun q139 => ?_) (fun q139 => ?_)
              · refine s_iload C dX0_isMet_131 rfl ?_
                refine s_iconst C dX0_isMet_133 (by decide) (fun z140 tz140 => ?_)
                refine s_icmp_lt (tgt := 161) C dX0_isMet_134 (by decide) (fun q141 => ?_) (fun q141 => ?_)
                · refine s_iinc C dX0_isMet_161 rfl (by decide) rfl (by decide) (by omega) (fun z142 tz142 => ?_)
                  show WP E ad 164 [some (.ref (ad 33)), some (.ref (ad 1)), some (.int a), some (.ref (ad 57)), some (.int t), some (.int u), some (.int z142), some (.int z10)] [] τ
                  refine s_goto (tgt := 9) C dX0_isMet_164 (by decide) ?_
                  refine wp_le (lv' := [some (.ref (ad 33)), some (.ref (ad 1)), some (.int a), some (.ref (ad 57)), some (.int t), some (.int u), some (.int z142), none]) ⟨rfl, ⟨rfl, ⟨rfl, ⟨rfl, ⟨rfl, ⟨rfl, ⟨rfl, trivial⟩⟩⟩⟩⟩⟩⟩ ?_
                  exact ih τ t u z142 (Fr.tr Fr.rf (Fr.mo kF (by decide) (by decide))) hXτ (by omega) (by omega) (by omega)
                · refine s_iinc C dX0_isMet_137 rfl (by decide) rfl (by decide) (by omega) (fun z143 tz143 => ?_)
                  show WP E ad 140 [some (.ref (ad 33)), some (.ref (ad 1)), some (.int a), some (.ref (ad 57)), some (.int z143), some (.int u), some (.int z), some (.int z10)] [] τ
                  refine s_aload_n C dX0_isMet_140 rfl ?_
                  refine s_iload C dX0_isMet_141 rfl ?_
                  refine s_iconst C dX0_isMet_143 (by decide) (fun z144 tz144 => ?_)
                  refine s_isub C dX0_isMet_144 (by omega) (fun z145 tz145 => ?_)
                  refine s_iload C dX0_isMet_145 rfl ?_
                  refine s_aload_n C dX0_isMet_147 rfl ?_
                  refine s_iload C dX0_isMet_148 rfl ?_
                  refine s_iconst C dX0_isMet_150 (by decide) (fun z146 tz146 => ?_)
                  refine s_isub C dX0_isMet_151 (by omega) (fun z147 tz147 => ?_)
                  refine s_iald (r := (τ.1 57 z147.toNatClampNeg)) C y57 (by omega) rfl dX0_isMet_152 ?_
                  refine s_aload_n C dX0_isMet_153 rfl ?_
                  refine s_iload C dX0_isMet_154 rfl ?_
                  refine s_iald (r := (τ.1 57 z143.toNatClampNeg)) C y57 (by omega) rfl dX0_isMet_156 ?_
                  refine s_callSI (st := [.int z145, .ref (ad 57)]) C (c_X0_combined l ad τ z10 ((τ.1 57 z147.toNatClampNeg)) ((τ.1 57 z143.toNatClampNeg)) ) cv_X0_44 rfl rfl ⟨by decide, by decide⟩ (Nat.le_of_ble_eq_true rfl) dX0_isMet_157 ?_
                  intro r148 τ149 h150
                  obtain ⟨eh150, h150⟩ := h150; replace eh150 := eh150.symm; subst eh150
                  refine s_iast C y57 (by omega) dX0_isMet_160 ?_
                  refine s_iinc C dX0_isMet_161 rfl (by decide) rfl (by decide) (by omega) (fun z151 tz151 => ?_)
                  show WP E ad 164 [some (.ref (ad 33)), some (.ref (ad 1)), some (.int a), some (.ref (ad 57)), some (.int z143), some (.int u), some (.int z151), some (.int z10)] [] (sV τ 57 z145.toNatClampNeg r148)
                  refine s_goto (tgt := 9) C dX0_isMet_164 (by decide) ?_
                  refine wp_le (lv' := [some (.ref (ad 33)), some (.ref (ad 1)), some (.int a), some (.ref (ad 57)), some (.int z143), some (.int u), some (.int z151), none]) ⟨rfl, ⟨rfl, ⟨rfl, ⟨rfl, ⟨rfl, ⟨rfl, ⟨rfl, trivial⟩⟩⟩⟩⟩⟩⟩ ?_
                  exact ih (sV τ 57 z145.toNatClampNeg r148) z143 u z151 (Fr.sV (Fr.tr Fr.rf (Fr.mo kF (by decide) (by decide))) (Or.inl (by decide))) hXτ (by omega) (by omega) (by omega)
              · refine s_iload C dX0_isMet_108 rfl ?_
                refine s_iconst C dX0_isMet_110 (by decide) (fun z152 tz152 => ?_)
                refine s_icmp_lt (tgt := 131) C dX0_isMet_111 (by decide) (fun q153 => ?_) (fun q153 => ?_)
                · refine s_iload C dX0_isMet_131 rfl ?_
                  refine s_iconst C dX0_isMet_133 (by decide) (fun z154 tz154 => ?_)
                  refine s_icmp_lt (tgt := 161) C dX0_isMet_134 (by decide) (fun q155 => ?_) (fun q155 => ?_)
                  · refine s_iinc C dX0_isMet_161 rfl (by decide) rfl (by decide) (by omega) (fun z156 tz156 => ?_)
                    show WP E ad 164 [some (.ref (ad 33)), some (.ref (ad 1)), some (.int a), some (.ref (ad 57)), some (.int t), some (.int u), some (.int z156), some (.int z10)] [] τ
                    refine s_goto (tgt := 9) C dX0_isMet_164 (by decide) ?_
                    refine wp_le (lv' := [some (.ref (ad 33)), some (.ref (ad 1)), some (.int a), some (.ref (ad 57)), some (.int t), some (.int u), some (.int z156), none]) ⟨rfl, ⟨rfl, ⟨rfl, ⟨rfl, ⟨rfl, ⟨rfl, ⟨rfl, trivial⟩⟩⟩⟩⟩⟩⟩ ?_
                    exact ih τ t u z156 (Fr.tr Fr.rf (Fr.mo kF (by decide) (by decide))) hXτ (by omega) (by omega) (by omega)
                  · refine s_iinc C dX0_isMet_137 rfl (by decide) rfl (by decide) (by omega) (fun z157 tz157 => ?_)
                    show WP E ad 140 [some (.ref (ad 33)), some (.ref (ad 1)), some (.int a), some (.ref (ad 57)), some (.int z157), some (.int u), some (.int z), some (.int z10)] [] τ
                    refine s_aload_n C dX0_isMet_140 rfl ?_
                    refine s_iload C dX0_isMet_141 rfl ?_
                    refine s_iconst C dX0_isMet_143 (by decide) (fun z158 tz158 => ?_)
                    refine s_isub C dX0_isMet_144 (by omega) (fun z159 tz159 => ?_)
                    refine s_iload C dX0_isMet_145 rfl ?_
                    refine s_aload_n C dX0_isMet_147 rfl ?_
                    refine s_iload C dX0_isMet_148 rfl ?_
                    refine s_iconst C dX0_isMet_150 (by decide) (fun z160 tz160 => ?_)
                    refine s_isub C dX0_isMet_151 (by omega) (fun z161 tz161 => ?_)
                    refine s_iald (r := (τ.1 57 z161.toNatClampNeg)) C y57 (by omega) rfl dX0_isMet_152 ?_
                    refine s_aload_n C dX0_isMet_153 rfl ?_
                    refine s_iload C dX0_isMet_154 rfl ?_
                    refine s_iald (r := (τ.1 57 z157.toNatClampNeg)) C y57 (by omega) rfl dX0_isMet_156 ?_
                    refine s_callSI (st := [.int z159, .ref (ad 57)]) C (c_X0_combined l ad τ z10 ((τ.1 57 z161.toNatClampNeg)) ((τ.1 57 z157.toNatClampNeg)) ) cv_X0_44 rfl rfl ⟨by decide, by decide⟩ (Nat.le_of_ble_eq_true rfl) dX0_isMet_157 ?_
                    intro r162 τ163 h164
                    obtain ⟨eh164, h164⟩ := h164; replace eh164 := eh164.symm; subst eh164
                    refine s_iast C y57 (by omega) dX0_isMet_160 ?_
                    refine s_iinc C dX0_isMet_161 rfl (by decide) rfl (by decide) (by omega) (fun z165 tz165 => ?_)
                    show WP E ad 164 [some (.ref (ad 33)), some (.ref (ad 1)), some (.int a), some (.ref (ad 57)), some (.int z157), some (.int u), some (.int z165), some (.int z10)] [] (sV τ 57 z159.toNatClampNeg r162)
                    refine s_goto (tgt := 9) C dX0_isMet_164 (by decide) ?_
                    refine wp_le (lv' := [some (.ref (ad 33)), some (.ref (ad 1)), some (.int a), some (.ref (ad 57)), some (.int z157), some (.int u), some (.int z165), none]) ⟨rfl, ⟨rfl, ⟨rfl, ⟨rfl, ⟨rfl, ⟨rfl, ⟨rfl, trivial⟩⟩⟩⟩⟩⟩⟩ ?_
                    exact ih (sV τ 57 z159.toNatClampNeg r162) z157 u z165 (Fr.sV (Fr.tr Fr.rf (Fr.mo kF (by decide) (by decide))) (Or.inl (by decide))) hXτ (by omega) (by omega) (by omega)
                · refine s_aload_n C dX0_isMet_114 rfl ?_
                  refine s_iload C dX0_isMet_115 rfl ?_
                  refine s_iconst C dX0_isMet_117 (by decide) (fun z166 tz166 => ?_)
                  refine s_isub C dX0_isMet_118 (by omega) (fun z167 tz167 => ?_)
                  refine s_iconst C dX0_isMet_119 (by decide) (fun z168 tz168 => ?_)
                  refine s_aload_n C dX0_isMet_120 rfl ?_
                  refine s_iload C dX0_isMet_121 rfl ?_
                  refine s_iconst C dX0_isMet_123 (by decide) (fun z169 tz169 => ?_)
                  refine s_isub C dX0_isMet_124 (by omega) (fun z170 tz170 => ?_)
                  refine s_iald (r := (τ.1 57 z170.toNatClampNeg)) C y57 (by omega) rfl dX0_isMet_125 ?_
                  refine s_isubU C dX0_isMet_126 (fun z171 tz171 => ?_)
                  refine s_iast C y57 (by omega) dX0_isMet_127 ?_
                  refine s_goto (tgt := 161) C dX0_isMet_128 (by decide) ?_
                  refine s_iinc C dX0_isMet_161 rfl (by decide) rfl (by decide) (by omega) (fun z172 tz172 => ?_)
                  show WP E ad 164 [some (.ref (ad 33)), some (.ref (ad 1)), some (.int a), some (.ref (ad 57)), some (.int t), some (.int u), some (.int z172), some (.int z10)] [] (sV τ 57 z167.toNatClampNeg z171)
                  refine s_goto (tgt := 9) C dX0_isMet_164 (by decide) ?_
                  refine wp_le (lv' := [some (.ref (ad 33)), some (.ref (ad 1)), some (.int a), some (.ref (ad 57)), some (.int t), some (.int u), some (.int z172), none]) ⟨rfl, ⟨rfl, ⟨rfl, ⟨rfl, ⟨rfl, ⟨rfl, ⟨rfl, trivial⟩⟩⟩⟩⟩⟩⟩ ?_
                  exact ih (sV τ 57 z167.toNatClampNeg z171) t u z172 (Fr.sV (Fr.tr Fr.rf (Fr.mo kF (by decide) (by decide))) (Or.inl (by decide))) hXτ (by omega) (by omega) (by omega)
            · refine s_aload_n C dX0_isMet_64 rfl ?_
              refine s_iload C dX0_isMet_65 rfl ?_
              refine s_iload C dX0_isMet_67 rfl ?_
              refine s_iconst C dX0_isMet_69 (by decide) (fun z173 tz173 => ?_)
              refine s_icmp_ne (tgt := 78) C dX0_isMet_70 (by decide) (fun q174 => ?_) (fun q174 => ?_)
              · refine s_aload_n C dX0_isMet_78 rfl ?_
                refine s_iload_n C dX0_isMet_79 rfl ?_
                refine s_iload C dX0_isMet_80 rfl ?_
                refine s_aload_n C dX0_isMet_82 rfl ?_
                refine s_getr (k := 2) (j := 45) C y33 fw_X0_19 rfl dX0_isMet_83 ?_
                refine s_iload C dX0_isMet_86 rfl ?_
                refine s_iald (r := (τ.1 45 z.toNatClampNeg)) C y45 (by omega) rfl dX0_isMet_88 ?_
                refine s_iconst C dX0_isMet_89 (by decide) (fun z175 tz175 => ?_)
                skip
                refine s_ishr C dX0_isMet_90 (fun z176 tz176 => ?_)
                refine s_callSI (st := [.int t, .ref (ad 57)]) C (c_X0_unit l ad τ a z10 z176 (by omega) hg (fun h => by have hp := hXτ.C2.2.2 z.toNatClampNeg; unfold PV at hp; rw [show pOp (τ.1 45 z.toNatClampNeg) = z10 by rw [tz10, ceq (n := 15) tz9]; rfl, show pNm (τ.1 45 z.toNatClampNeg) = z176 by rw [tz176, ceq (n := 4) tz175]; rfl] at hp; exact hp h)) cv_X0_40 rfl rfl ⟨by decide, by decide⟩ (Nat.le_of_ble_eq_true rfl) dX0_isMet_91 ?_
                intro r177 τ178 h179
                obtain ⟨eh179, h179⟩ := h179; replace eh179 := eh179.symm; subst eh179
                refine s_iast C y57 (by omega) dX0_isMet_94 ?_
                refine s_iinc C dX0_isMet_95 rfl (by decide) rfl (by decide) (by omega) (fun z180 tz180 => ?_)
                show WP E ad 98 [some (.ref (ad 33)), some (.ref (ad 1)), some (.int a), some (.ref (ad 57)), some (.int z180), some (.int u), some (.int z), some (.int z10)] [] (sV τ 57 t.toNatClampNeg r177)
                refine s_goto (tgt := 161) C dX0_isMet_98 (by decide) ?_
                refine s_iinc C dX0_isMet_161 rfl (by decide) rfl (by decide) (by omega) (fun z181 tz181 => ?_)
                show WP E ad 164 [some (.ref (ad 33)), some (.ref (ad 1)), some (.int a), some (.ref (ad 57)), some (.int z180), some (.int u), some (.int z181), some (.int z10)] [] (sV τ 57 t.toNatClampNeg r177)
                refine s_goto (tgt := 9) C dX0_isMet_164 (by decide) ?_
                refine wp_le (lv' := [some (.ref (ad 33)), some (.ref (ad 1)), some (.int a), some (.ref (ad 57)), some (.int z180), some (.int u), some (.int z181), none]) ⟨rfl, ⟨rfl, ⟨rfl, ⟨rfl, ⟨rfl, ⟨rfl, ⟨rfl, trivial⟩⟩⟩⟩⟩⟩⟩ ?_
                exact ih (sV τ 57 t.toNatClampNeg r177) z180 u z181 (Fr.sV (Fr.tr Fr.rf (Fr.mo kF (by decide) (by decide))) (Or.inl (by decide))) hXτ (by omega) (by omega) (by omega)
              · refine s_iload C dX0_isMet_73 rfl ?_
                refine s_goto (tgt := 94) C dX0_isMet_75 (by decide) ?_
                refine s_iast C y57 (by omega) dX0_isMet_94 ?_
                refine s_iinc C dX0_isMet_95 rfl (by decide) rfl (by decide) (by omega) (fun z182 tz182 => ?_)
                show WP E ad 98 [some (.ref (ad 33)), some (.ref (ad 1)), some (.int a), some (.ref (ad 57)), some (.int z182), some (.int u), some (.int z), some (.int z10)] [] (sV τ 57 t.toNatClampNeg u)
                refine s_goto (tgt := 161) C dX0_isMet_98 (by decide) ?_
                refine s_iinc C dX0_isMet_161 rfl (by decide) rfl (by decide) (by omega) (fun z183 tz183 => ?_)
                show WP E ad 164 [some (.ref (ad 33)), some (.ref (ad 1)), some (.int a), some (.ref (ad 57)), some (.int z182), some (.int u), some (.int z183), some (.int z10)] [] (sV τ 57 t.toNatClampNeg u)
                refine s_goto (tgt := 9) C dX0_isMet_164 (by decide) ?_
                refine wp_le (lv' := [some (.ref (ad 33)), some (.ref (ad 1)), some (.int a), some (.ref (ad 57)), some (.int z182), some (.int u), some (.int z183), none]) ⟨rfl, ⟨rfl, ⟨rfl, ⟨rfl, ⟨rfl, ⟨rfl, ⟨rfl, trivial⟩⟩⟩⟩⟩⟩⟩ ?_
                exact ih (sV τ 57 t.toNatClampNeg u) z182 u z183 (Fr.sV (Fr.tr Fr.rf (Fr.mo kF (by decide) (by decide))) (Or.inl (by decide))) hXτ (by omega) (by omega) (by omega)
        · refine s_aload_n C dX0_isMet_41 rfl ?_
          refine s_iload_n C dX0_isMet_42 rfl ?_
          refine s_callVI (st := []) C (c_X5_underWay l ad τ a hXτ) cv_X0_29 y1 rfl rfl rfl ⟨by decide, by decide⟩ (Nat.le_of_ble_eq_true rfl) dX0_isMet_43 ?_
          intro r184 τ185 h186
          obtain ⟨eh186, h186⟩ := h186; replace eh186 := eh186.symm; subst eh186
          refine s_callSI (st := []) C (c_J6_bitCount_0f7a4 l ad τ r184 ) cv_X0_35 rfl rfl ⟨by decide, by decide⟩ (Nat.le_of_ble_eq_true rfl) dX0_isMet_46 ?_
          intro r187 τ188 h189
          obtain ⟨eh189, h189⟩ := h189; replace eh189 := eh189.symm; subst eh189
          refine s_istore C dX0_isMet_49 (by decide) (Nat.le_of_ble_eq_true rfl) rfl ?_
          show WP E ad 51 [some (.ref (ad 33)), some (.ref (ad 1)), some (.int a), some (.ref (ad 57)), some (.int t), some (.int r187), some (.int z), some (.int z10)] [] τ
          refine s_iload C dX0_isMet_51 rfl ?_
          refine s_iconst C dX0_isMet_53 (by decide) (fun z190 tz190 => ?_)
          refine s_icmp_gt (tgt := 101) C dX0_isMet_54 (by decide) (fun q191 => ?_) (fun q191 => ?_)
          · refine s_iload C dX0_isMet_101 rfl ?_
            refine s_bipush C dX0_isMet_103 (by decide) (fun z192 tz192 => ?_)
            refine s_icmp_ne (tgt := 131) C dX0_isMet_105 (by decide) (fun q193 => ?_) (fun q193 => ?_)
            · refine s_iload C dX0_isMet_131 rfl ?_
              refine s_iconst C dX0_isMet_133 (by decide) (fun z194 tz194 => ?_)
              refine s_icmp_lt (tgt := 161) C dX0_isMet_134 (by decide) (fun q195 => ?_) (fun q195 => ?_)
              · refine s_iinc C dX0_isMet_161 rfl (by decide) rfl (by decide) (by omega) (fun z196 tz196 => ?_)
                show WP E ad 164 [some (.ref (ad 33)), some (.ref (ad 1)), some (.int a), some (.ref (ad 57)), some (.int t), some (.int r187), some (.int z196), some (.int z10)] [] τ
                refine s_goto (tgt := 9) C dX0_isMet_164 (by decide) ?_
                refine wp_le (lv' := [some (.ref (ad 33)), some (.ref (ad 1)), some (.int a), some (.ref (ad 57)), some (.int t), some (.int r187), some (.int z196), none]) ⟨rfl, ⟨rfl, ⟨rfl, ⟨rfl, ⟨rfl, ⟨rfl, ⟨rfl, trivial⟩⟩⟩⟩⟩⟩⟩ ?_
                exact ih τ t r187 z196 (Fr.tr Fr.rf (Fr.mo kF (by decide) (by decide))) hXτ (by omega) (by omega) (by omega)
              · refine s_iinc C dX0_isMet_137 rfl (by decide) rfl (by decide) (by omega) (fun z197 tz197 => ?_)
                show WP E ad 140 [some (.ref (ad 33)), some (.ref (ad 1)), some (.int a), some (.ref (ad 57)), some (.int z197), some (.int r187), some (.int z), some (.int z10)] [] τ
                refine s_aload_n C dX0_isMet_140 rfl ?_
                refine s_iload C dX0_isMet_141 rfl ?_
                refine s_iconst C dX0_isMet_143 (by decide) (fun z198 tz198 => ?_)
                refine s_isub C dX0_isMet_144 (by omega) (fun z199 tz199 => ?_)
                refine s_iload C dX0_isMet_145 rfl ?_
                refine s_aload_n C dX0_isMet_147 rfl ?_
                refine s_iload C dX0_isMet_148 rfl ?_
                refine s_iconst C dX0_isMet_150 (by decide) (fun z200 tz200 => ?_)
                refine s_isub C dX0_isMet_151 (by omega) (fun z201 tz201 => ?_)
                refine s_iald (r := (τ.1 57 z201.toNatClampNeg)) C y57 (by omega) rfl dX0_isMet_152 ?_
                refine s_aload_n C dX0_isMet_153 rfl ?_
                refine s_iload C dX0_isMet_154 rfl ?_
                refine s_iald (r := (τ.1 57 z197.toNatClampNeg)) C y57 (by omega) rfl dX0_isMet_156 ?_
                refine s_callSI (st := [.int z199, .ref (ad 57)]) C (c_X0_combined l ad τ z10 ((τ.1 57 z201.toNatClampNeg)) ((τ.1 57 z197.toNatClampNeg)) ) cv_X0_44 rfl rfl ⟨by decide, by decide⟩ (Nat.le_of_ble_eq_true rfl) dX0_isMet_157 ?_
                intro r202 τ203 h204
                obtain ⟨eh204, h204⟩ := h204; replace eh204 := eh204.symm; subst eh204
                refine s_iast C y57 (by omega) dX0_isMet_160 ?_
                refine s_iinc C dX0_isMet_161 rfl (by decide) rfl (by decide) (by omega) (fun z205 tz205 => ?_)
                show WP E ad 164 [some (.ref (ad 33)), some (.ref (ad 1)), some (.int a), some (.ref (ad 57)), some (.int z197), some (.int r187), some (.int z205), some (.int z10)] [] (sV τ 57 z199.toNatClampNeg r202)
                refine s_goto (tgt := 9) C dX0_isMet_164 (by decide) ?_
                refine wp_le (lv' := [some (.ref (ad 33)), some (.ref (ad 1)), some (.int a), some (.ref (ad 57)), some (.int z197), some (.int r187), some (.int z205), none]) ⟨rfl, ⟨rfl, ⟨rfl, ⟨rfl, ⟨rfl, ⟨rfl, ⟨rfl, trivial⟩⟩⟩⟩⟩⟩⟩ ?_
                exact ih (sV τ 57 z199.toNatClampNeg r202) z197 r187 z205 (Fr.sV (Fr.tr Fr.rf (Fr.mo kF (by decide) (by decide))) (Or.inl (by decide))) hXτ (by omega) (by omega) (by omega)
            · refine s_iload C dX0_isMet_108 rfl ?_
              refine s_iconst C dX0_isMet_110 (by decide) (fun z206 tz206 => ?_)
              refine s_icmp_lt (tgt := 131) C dX0_isMet_111 (by decide) (fun q207 => ?_) (fun q207 => ?_)
              · refine s_iload C dX0_isMet_131 rfl ?_
                refine s_iconst C dX0_isMet_133 (by decide) (fun z208 tz208 => ?_)
                refine s_icmp_lt (tgt := 161) C dX0_isMet_134 (by decide) (fun q209 => ?_) (fun q209 => ?_)
                · refine s_iinc C dX0_isMet_161 rfl (by decide) rfl (by decide) (by omega) (fun z210 tz210 => ?_)
                  show WP E ad 164 [some (.ref (ad 33)), some (.ref (ad 1)), some (.int a), some (.ref (ad 57)), some (.int t), some (.int r187), some (.int z210), some (.int z10)] [] τ
                  refine s_goto (tgt := 9) C dX0_isMet_164 (by decide) ?_
                  refine wp_le (lv' := [some (.ref (ad 33)), some (.ref (ad 1)), some (.int a), some (.ref (ad 57)), some (.int t), some (.int r187), some (.int z210), none]) ⟨rfl, ⟨rfl, ⟨rfl, ⟨rfl, ⟨rfl, ⟨rfl, ⟨rfl, trivial⟩⟩⟩⟩⟩⟩⟩ ?_
                  exact ih τ t r187 z210 (Fr.tr Fr.rf (Fr.mo kF (by decide) (by decide))) hXτ (by omega) (by omega) (by omega)
                · refine s_iinc C dX0_isMet_137 rfl (by decide) rfl (by decide) (by omega) (fun z211 tz211 => ?_)
                  show WP E ad 140 [some (.ref (ad 33)), some (.ref (ad 1)), some (.int a), some (.ref (ad 57)), some (.int z211), some (.int r187), some (.int z), some (.int z10)] [] τ
                  refine s_aload_n C dX0_isMet_140 rfl ?_
                  refine s_iload C dX0_isMet_141 rfl ?_
                  refine s_iconst C dX0_isMet_143 (by decide) (fun z212 tz212 => ?_)
                  refine s_isub C dX0_isMet_144 (by omega) (fun z213 tz213 => ?_)
                  refine s_iload C dX0_isMet_145 rfl ?_
                  refine s_aload_n C dX0_isMet_147 rfl ?_
                  refine s_iload C dX0_isMet_148 rfl ?_
                  refine s_iconst C dX0_isMet_150 (by decide) (fun z214 tz214 => ?_)
                  refine s_isub C dX0_isMet_151 (by omega) (fun z215 tz215 => ?_)
                  refine s_iald (r := (τ.1 57 z215.toNatClampNeg)) C y57 (by omega) rfl dX0_isMet_152 ?_
                  refine s_aload_n C dX0_isMet_153 rfl ?_
                  refine s_iload C dX0_isMet_154 rfl ?_
                  refine s_iald (r := (τ.1 57 z211.toNatClampNeg)) C y57 (by omega) rfl dX0_isMet_156 ?_
                  refine s_callSI (st := [.int z213, .ref (ad 57)]) C (c_X0_combined l ad τ z10 ((τ.1 57 z215.toNatClampNeg)) ((τ.1 57 z211.toNatClampNeg)) ) cv_X0_44 rfl rfl ⟨by decide, by decide⟩ (Nat.le_of_ble_eq_true rfl) dX0_isMet_157 ?_
                  intro r216 τ217 h218
                  obtain ⟨eh218, h218⟩ := h218; replace eh218 := eh218.symm; subst eh218
                  refine s_iast C y57 (by omega) dX0_isMet_160 ?_
                  refine s_iinc C dX0_isMet_161 rfl (by decide) rfl (by decide) (by omega) (fun z219 tz219 => ?_)
                  show WP E ad 164 [some (.ref (ad 33)), some (.ref (ad 1)), some (.int a), some (.ref (ad 57)), some (.int z211), some (.int r187), some (.int z219), some (.int z10)] [] (sV τ 57 z213.toNatClampNeg r216)
                  refine s_goto (tgt := 9) C dX0_isMet_164 (by decide) ?_
                  refine wp_le (lv' := [some (.ref (ad 33)), some (.ref (ad 1)), some (.int a), some (.ref (ad 57)), some (.int z211), some (.int r187), some (.int z219), none]) ⟨rfl, ⟨rfl, ⟨rfl, ⟨rfl, ⟨rfl, ⟨rfl, ⟨rfl, trivial⟩⟩⟩⟩⟩⟩⟩ ?_
                  exact ih (sV τ 57 z213.toNatClampNeg r216) z211 r187 z219 (Fr.sV (Fr.tr Fr.rf (Fr.mo kF (by decide) (by decide))) (Or.inl (by decide))) hXτ (by omega) (by omega) (by omega)
              · refine s_aload_n C dX0_isMet_114 rfl ?_
                refine s_iload C dX0_isMet_115 rfl ?_
                refine s_iconst C dX0_isMet_117 (by decide) (fun z220 tz220 => ?_)
                refine s_isub C dX0_isMet_118 (by omega) (fun z221 tz221 => ?_)
                refine s_iconst C dX0_isMet_119 (by decide) (fun z222 tz222 => ?_)
                refine s_aload_n C dX0_isMet_120 rfl ?_
                refine s_iload C dX0_isMet_121 rfl ?_
                refine s_iconst C dX0_isMet_123 (by decide) (fun z223 tz223 => ?_)
                refine s_isub C dX0_isMet_124 (by omega) (fun z224 tz224 => ?_)
                refine s_iald (r := (τ.1 57 z224.toNatClampNeg)) C y57 (by omega) rfl dX0_isMet_125 ?_
                refine s_isubU C dX0_isMet_126 (fun z225 tz225 => ?_)
                refine s_iast C y57 (by omega) dX0_isMet_127 ?_
                refine s_goto (tgt := 161) C dX0_isMet_128 (by decide) ?_
                refine s_iinc C dX0_isMet_161 rfl (by decide) rfl (by decide) (by omega) (fun z226 tz226 => ?_)
                show WP E ad 164 [some (.ref (ad 33)), some (.ref (ad 1)), some (.int a), some (.ref (ad 57)), some (.int t), some (.int r187), some (.int z226), some (.int z10)] [] (sV τ 57 z221.toNatClampNeg z225)
                refine s_goto (tgt := 9) C dX0_isMet_164 (by decide) ?_
                refine wp_le (lv' := [some (.ref (ad 33)), some (.ref (ad 1)), some (.int a), some (.ref (ad 57)), some (.int t), some (.int r187), some (.int z226), none]) ⟨rfl, ⟨rfl, ⟨rfl, ⟨rfl, ⟨rfl, ⟨rfl, ⟨rfl, trivial⟩⟩⟩⟩⟩⟩⟩ ?_
                exact ih (sV τ 57 z221.toNatClampNeg z225) t r187 z226 (Fr.sV (Fr.tr Fr.rf (Fr.mo kF (by decide) (by decide))) (Or.inl (by decide))) hXτ (by omega) (by omega) (by omega)
          · refine s_iload C dX0_isMet_57 rfl ?_
            refine s_aload_n C dX0_isMet_59 rfl ?_
            refine s_alen0 C y57 (by omega) dX0_isMet_60 (fun z227 tz227 => ?_)
            refine s_icmp_ge (tgt := 101) C dX0_isMet_61 (by decide) (fun q228 => ?_) (fun q228 => ?_)
            · refine s_iload C dX0_isMet_101 rfl ?_
              refine s_bipush C dX0_isMet_103 (by decide) (fun z229 tz229 => ?_)
              refine s_icmp_ne (tgt := 131) C dX0_isMet_105 (by decide) (fun q230 => ?_) (fun q230 => ?_)
              · refine s_iload C dX0_isMet_131 rfl ?_
                refine s_iconst C dX0_isMet_133 (by decide) (fun z231 tz231 => ?_)
                refine s_icmp_lt (tgt := 161) C dX0_isMet_134 (by decide) (fun q232 => ?_) (fun q232 => ?_)
                · refine s_iinc C dX0_isMet_161 rfl (by decide) rfl (by decide) (by omega) (fun z233 tz233 => ?_)
                  show WP E ad 164 [some (.ref (ad 33)), some (.ref (ad 1)), some (.int a), some (.ref (ad 57)), some (.int t), some (.int r187), some (.int z233), some (.int z10)] [] τ
                  refine s_goto (tgt := 9) C dX0_isMet_164 (by decide) ?_
                  refine wp_le (lv' := [some (.ref (ad 33)), some (.ref (ad 1)), some (.int a), some (.ref (ad 57)), some (.int t), some (.int r187), some (.int z233), none]) ⟨rfl, ⟨rfl, ⟨rfl, ⟨rfl, ⟨rfl, ⟨rfl, ⟨rfl, trivial⟩⟩⟩⟩⟩⟩⟩ ?_
                  exact ih τ t r187 z233 (Fr.tr Fr.rf (Fr.mo kF (by decide) (by decide))) hXτ (by omega) (by omega) (by omega)
                · refine s_iinc C dX0_isMet_137 rfl (by decide) rfl (by decide) (by omega) (fun z234 tz234 => ?_)
                  show WP E ad 140 [some (.ref (ad 33)), some (.ref (ad 1)), some (.int a), some (.ref (ad 57)), some (.int z234), some (.int r187), some (.int z), some (.int z10)] [] τ
                  refine s_aload_n C dX0_isMet_140 rfl ?_
                  refine s_iload C dX0_isMet_141 rfl ?_
                  refine s_iconst C dX0_isMet_143 (by decide) (fun z235 tz235 => ?_)
                  refine s_isub C dX0_isMet_144 (by omega) (fun z236 tz236 => ?_)
                  refine s_iload C dX0_isMet_145 rfl ?_
                  refine s_aload_n C dX0_isMet_147 rfl ?_
                  refine s_iload C dX0_isMet_148 rfl ?_
                  refine s_iconst C dX0_isMet_150 (by decide) (fun z237 tz237 => ?_)
                  refine s_isub C dX0_isMet_151 (by omega) (fun z238 tz238 => ?_)
                  refine s_iald (r := (τ.1 57 z238.toNatClampNeg)) C y57 (by omega) rfl dX0_isMet_152 ?_
                  refine s_aload_n C dX0_isMet_153 rfl ?_
                  refine s_iload C dX0_isMet_154 rfl ?_
                  refine s_iald (r := (τ.1 57 z234.toNatClampNeg)) C y57 (by omega) rfl dX0_isMet_156 ?_
                  refine s_callSI (st := [.int z236, .ref (ad 57)]) C (c_X0_combined l ad τ z10 ((τ.1 57 z238.toNatClampNeg)) ((τ.1 57 z234.toNatClampNeg)) ) cv_X0_44 rfl rfl ⟨by decide, by decide⟩ (Nat.le_of_ble_eq_true rfl) dX0_isMet_157 ?_
                  intro r239 τ240 h241
                  obtain ⟨eh241, h241⟩ := h241; replace eh241 := eh241.symm; subst eh241
                  refine s_iast C y57 (by omega) dX0_isMet_160 ?_
                  refine s_iinc C dX0_isMet_161 rfl (by decide) rfl (by decide) (by omega) (fun z242 tz242 => ?_)
                  show WP E ad 164 [some (.ref (ad 33)), some (.ref (ad 1)), some (.int a), some (.ref (ad 57)), some (.int z234), some (.int r187), some (.int z242), some (.int z10)] [] (sV τ 57 z236.toNatClampNeg r239)
                  refine s_goto (tgt := 9) C dX0_isMet_164 (by decide) ?_
                  refine wp_le (lv' := [some (.ref (ad 33)), some (.ref (ad 1)), some (.int a), some (.ref (ad 57)), some (.int z234), some (.int r187), some (.int z242), none]) ⟨rfl, ⟨rfl, ⟨rfl, ⟨rfl, ⟨rfl, ⟨rfl, ⟨rfl, trivial⟩⟩⟩⟩⟩⟩⟩ ?_
                  exact ih (sV τ 57 z236.toNatClampNeg r239) z234 r187 z242 (Fr.sV (Fr.tr Fr.rf (Fr.mo kF (by decide) (by decide))) (Or.inl (by decide))) hXτ (by omega) (by omega) (by omega)
              · refine s_iload C dX0_isMet_108 rfl ?_
                refine s_iconst C dX0_isMet_110 (by decide) (fun z243 tz243 => ?_)
                refine s_icmp_lt (tgt := 131) C dX0_isMet_111 (by decide) (fun q244 => ?_) (fun q244 => ?_)
                · refine s_iload C dX0_isMet_131 rfl ?_
                  refine s_iconst C dX0_isMet_133 (by decide) (fun z245 tz245 => ?_)
                  refine s_icmp_lt (tgt := 161) C dX0_isMet_134 (by decide) (fun q246 => ?_) (fun q246 => ?_)
                  · refine s_iinc C dX0_isMet_161 rfl (by decide) rfl (by decide) (by omega) (fun z247 tz247 => ?_)
                    show WP E ad 164 [some (.ref (ad 33)), some (.ref (ad 1)), some (.int a), some (.ref (ad 57)), some (.int t), some (.int r187), some (.int z247), some (.int z10)] [] τ
                    refine s_goto (tgt := 9) C dX0_isMet_164 (by decide) ?_
                    refine wp_le (lv' := [some (.ref (ad 33)), some (.ref (ad 1)), some (.int a), some (.ref (ad 57)), some (.int t), some (.int r187), some (.int z247), none]) ⟨rfl, ⟨rfl, ⟨rfl, ⟨rfl, ⟨rfl, ⟨rfl, ⟨rfl, trivial⟩⟩⟩⟩⟩⟩⟩ ?_
                    exact ih τ t r187 z247 (Fr.tr Fr.rf (Fr.mo kF (by decide) (by decide))) hXτ (by omega) (by omega) (by omega)
                  · refine s_iinc C dX0_isMet_137 rfl (by decide) rfl (by decide) (by omega) (fun z248 tz248 => ?_)
                    show WP E ad 140 [some (.ref (ad 33)), some (.ref (ad 1)), some (.int a), some (.ref (ad 57)), some (.int z248), some (.int r187), some (.int z), some (.int z10)] [] τ
                    refine s_aload_n C dX0_isMet_140 rfl ?_
                    refine s_iload C dX0_isMet_141 rfl ?_
                    refine s_iconst C dX0_isMet_143 (by decide) (fun z249 tz249 => ?_)
                    refine s_isub C dX0_isMet_144 (by omega) (fun z250 tz250 => ?_)
                    refine s_iload C dX0_isMet_145 rfl ?_
                    refine s_aload_n C dX0_isMet_147 rfl ?_
                    refine s_iload C dX0_isMet_148 rfl ?_
                    refine s_iconst C dX0_isMet_150 (by decide) (fun z251 tz251 => ?_)
                    refine s_isub C dX0_isMet_151 (by omega) (fun z252 tz252 => ?_)
                    refine s_iald (r := (τ.1 57 z252.toNatClampNeg)) C y57 (by omega) rfl dX0_isMet_152 ?_
                    refine s_aload_n C dX0_isMet_153 rfl ?_
                    refine s_iload C dX0_isMet_154 rfl ?_
                    refine s_iald (r := (τ.1 57 z248.toNatClampNeg)) C y57 (by omega) rfl dX0_isMet_156 ?_
                    refine s_callSI (st := [.int z250, .ref (ad 57)]) C (c_X0_combined l ad τ z10 ((τ.1 57 z252.toNatClampNeg)) ((τ.1 57 z248.toNatClampNeg)) ) cv_X0_44 rfl rfl ⟨by decide, by decide⟩ (Nat.le_of_ble_eq_true rfl) dX0_isMet_157 ?_
                    intro r253 τ254 h255
                    obtain ⟨eh255, h255⟩ := h255; replace eh255 := eh255.symm; subst eh255
                    refine s_iast C y57 (by omega) dX0_isMet_160 ?_
                    refine s_iinc C dX0_isMet_161 rfl (by decide) rfl (by decide) (by omega) (fun z256 tz256 => ?_)
                    show WP E ad 164 [some (.ref (ad 33)), some (.ref (ad 1)), some (.int a), some (.ref (ad 57)), some (.int z248), some (.int r187), some (.int z256), some (.int z10)] [] (sV τ 57 z250.toNatClampNeg r253)
                    refine s_goto (tgt := 9) C dX0_isMet_164 (by decide) ?_
                    refine wp_le (lv' := [some (.ref (ad 33)), some (.ref (ad 1)), some (.int a), some (.ref (ad 57)), some (.int z248), some (.int r187), some (.int z256), none]) ⟨rfl, ⟨rfl, ⟨rfl, ⟨rfl, ⟨rfl, ⟨rfl, ⟨rfl, trivial⟩⟩⟩⟩⟩⟩⟩ ?_
                    exact ih (sV τ 57 z250.toNatClampNeg r253) z248 r187 z256 (Fr.sV (Fr.tr Fr.rf (Fr.mo kF (by decide) (by decide))) (Or.inl (by decide))) hXτ (by omega) (by omega) (by omega)
                · refine s_aload_n C dX0_isMet_114 rfl ?_
                  refine s_iload C dX0_isMet_115 rfl ?_
                  refine s_iconst C dX0_isMet_117 (by decide) (fun z257 tz257 => ?_)
                  refine s_isub C dX0_isMet_118 (by omega) (fun z258 tz258 => ?_)
                  refine s_iconst C dX0_isMet_119 (by decide) (fun z259 tz259 => ?_)
                  refine s_aload_n C dX0_isMet_120 rfl ?_
                  refine s_iload C dX0_isMet_121 rfl ?_
                  refine s_iconst C dX0_isMet_123 (by decide) (fun z260 tz260 => ?_)
                  refine s_isub C dX0_isMet_124 (by omega) (fun z261 tz261 => ?_)
                  refine s_iald (r := (τ.1 57 z261.toNatClampNeg)) C y57 (by omega) rfl dX0_isMet_125 ?_
                  refine s_isubU C dX0_isMet_126 (fun z262 tz262 => ?_)
                  refine s_iast C y57 (by omega) dX0_isMet_127 ?_
                  refine s_goto (tgt := 161) C dX0_isMet_128 (by decide) ?_
                  refine s_iinc C dX0_isMet_161 rfl (by decide) rfl (by decide) (by omega) (fun z263 tz263 => ?_)
                  show WP E ad 164 [some (.ref (ad 33)), some (.ref (ad 1)), some (.int a), some (.ref (ad 57)), some (.int t), some (.int r187), some (.int z263), some (.int z10)] [] (sV τ 57 z258.toNatClampNeg z262)
                  refine s_goto (tgt := 9) C dX0_isMet_164 (by decide) ?_
                  refine wp_le (lv' := [some (.ref (ad 33)), some (.ref (ad 1)), some (.int a), some (.ref (ad 57)), some (.int t), some (.int r187), some (.int z263), none]) ⟨rfl, ⟨rfl, ⟨rfl, ⟨rfl, ⟨rfl, ⟨rfl, ⟨rfl, trivial⟩⟩⟩⟩⟩⟩⟩ ?_
                  exact ih (sV τ 57 z258.toNatClampNeg z262) t r187 z263 (Fr.sV (Fr.tr Fr.rf (Fr.mo kF (by decide) (by decide))) (Or.inl (by decide))) hXτ (by omega) (by omega) (by omega)
            · refine s_aload_n C dX0_isMet_64 rfl ?_
              refine s_iload C dX0_isMet_65 rfl ?_
              refine s_iload C dX0_isMet_67 rfl ?_
              refine s_iconst C dX0_isMet_69 (by decide) (fun z264 tz264 => ?_)
              refine s_icmp_ne (tgt := 78) C dX0_isMet_70 (by decide) (fun q265 => ?_) (fun q265 => ?_)
              · refine s_aload_n C dX0_isMet_78 rfl ?_
                refine s_iload_n C dX0_isMet_79 rfl ?_
                refine s_iload C dX0_isMet_80 rfl ?_
                refine s_aload_n C dX0_isMet_82 rfl ?_
                refine s_getr (k := 2) (j := 45) C y33 fw_X0_19 rfl dX0_isMet_83 ?_
                refine s_iload C dX0_isMet_86 rfl ?_
                refine s_iald (r := (τ.1 45 z.toNatClampNeg)) C y45 (by omega) rfl dX0_isMet_88 ?_
                refine s_iconst C dX0_isMet_89 (by decide) (fun z266 tz266 => ?_)
                skip
                refine s_ishr C dX0_isMet_90 (fun z267 tz267 => ?_)
                refine s_callSI (st := [.int t, .ref (ad 57)]) C (c_X0_unit l ad τ a z10 z267 (by omega) hg (fun h => by have hp := hXτ.C2.2.2 z.toNatClampNeg; unfold PV at hp; rw [show pOp (τ.1 45 z.toNatClampNeg) = z10 by rw [tz10, ceq (n := 15) tz9]; rfl, show pNm (τ.1 45 z.toNatClampNeg) = z267 by rw [tz267, ceq (n := 4) tz266]; rfl] at hp; exact hp h)) cv_X0_40 rfl rfl ⟨by decide, by decide⟩ (Nat.le_of_ble_eq_true rfl) dX0_isMet_91 ?_
                intro r268 τ269 h270
                obtain ⟨eh270, h270⟩ := h270; replace eh270 := eh270.symm; subst eh270
                refine s_iast C y57 (by omega) dX0_isMet_94 ?_
                refine s_iinc C dX0_isMet_95 rfl (by decide) rfl (by decide) (by omega) (fun z271 tz271 => ?_)
                show WP E ad 98 [some (.ref (ad 33)), some (.ref (ad 1)), some (.int a), some (.ref (ad 57)), some (.int z271), some (.int r187), some (.int z), some (.int z10)] [] (sV τ 57 t.toNatClampNeg r268)
                refine s_goto (tgt := 161) C dX0_isMet_98 (by decide) ?_
                refine s_iinc C dX0_isMet_161 rfl (by decide) rfl (by decide) (by omega) (fun z272 tz272 => ?_)
                show WP E ad 164 [some (.ref (ad 33)), some (.ref (ad 1)), some (.int a), some (.ref (ad 57)), some (.int z271), some (.int r187), some (.int z272), some (.int z10)] [] (sV τ 57 t.toNatClampNeg r268)
                refine s_goto (tgt := 9) C dX0_isMet_164 (by decide) ?_
                refine wp_le (lv' := [some (.ref (ad 33)), some (.ref (ad 1)), some (.int a), some (.ref (ad 57)), some (.int z271), some (.int r187), some (.int z272), none]) ⟨rfl, ⟨rfl, ⟨rfl, ⟨rfl, ⟨rfl, ⟨rfl, ⟨rfl, trivial⟩⟩⟩⟩⟩⟩⟩ ?_
                exact ih (sV τ 57 t.toNatClampNeg r268) z271 r187 z272 (Fr.sV (Fr.tr Fr.rf (Fr.mo kF (by decide) (by decide))) (Or.inl (by decide))) hXτ (by omega) (by omega) (by omega)
              · refine s_iload C dX0_isMet_73 rfl ?_
                refine s_goto (tgt := 94) C dX0_isMet_75 (by decide) ?_
                refine s_iast C y57 (by omega) dX0_isMet_94 ?_
                refine s_iinc C dX0_isMet_95 rfl (by decide) rfl (by decide) (by omega) (fun z273 tz273 => ?_)
                show WP E ad 98 [some (.ref (ad 33)), some (.ref (ad 1)), some (.int a), some (.ref (ad 57)), some (.int z273), some (.int r187), some (.int z), some (.int z10)] [] (sV τ 57 t.toNatClampNeg r187)
                refine s_goto (tgt := 161) C dX0_isMet_98 (by decide) ?_
                refine s_iinc C dX0_isMet_161 rfl (by decide) rfl (by decide) (by omega) (fun z274 tz274 => ?_)
                show WP E ad 164 [some (.ref (ad 33)), some (.ref (ad 1)), some (.int a), some (.ref (ad 57)), some (.int z273), some (.int r187), some (.int z274), some (.int z10)] [] (sV τ 57 t.toNatClampNeg r187)
                refine s_goto (tgt := 9) C dX0_isMet_164 (by decide) ?_
                refine wp_le (lv' := [some (.ref (ad 33)), some (.ref (ad 1)), some (.int a), some (.ref (ad 57)), some (.int z273), some (.int r187), some (.int z274), none]) ⟨rfl, ⟨rfl, ⟨rfl, ⟨rfl, ⟨rfl, ⟨rfl, ⟨rfl, trivial⟩⟩⟩⟩⟩⟩⟩ ?_
                exact ih (sV τ 57 t.toNatClampNeg r187) z273 r187 z274 (Fr.sV (Fr.tr Fr.rf (Fr.mo kF (by decide) (by decide))) (Or.inl (by decide))) hXτ (by omega) (by omega) (by omega)
set_option maxRecDepth 100000 in
theorem c_X0_isMet_2 (l : Launch) (ad : Nat → Nat) (σ : Sg) (a : Int32) (hX : IX σ.1) (hg : GR a) : Mt l yX0_isMet cX0_isMet 8 (some .boolean) 3 ad σ [.ref (ad 33), .ref (ad 1), .int a, .ref (ad 57)] (oI (fun r τ => Fr [57] [] σ τ ∧ (r.toInt = 0 ∨ r.toInt = 1))) := by
  refine Mt_intro (by decide +kernel) (by simp [lg_sl, Value.category]) (fun E C X => ?_)
  show WP E ad 0 [some (.ref (ad 33)), some (.ref (ad 1)), some (.int a), some (.ref (ad 57)), none, none, none, none] [] σ
  refine s_iconst C dX0_isMet_0 (by decide) (fun z1 tz1 => ?_)
  refine s_istore C dX0_isMet_1 (by decide) (Nat.le_of_ble_eq_true rfl) rfl ?_
  show WP E ad 3 [some (.ref (ad 33)), some (.ref (ad 1)), some (.int a), some (.ref (ad 57)), some (.int z1), none, none, none] [] σ
  refine s_iconst C dX0_isMet_3 (by decide) (fun z2 tz2 => ?_)
  refine s_istore C dX0_isMet_4 (by decide) (Nat.le_of_ble_eq_true rfl) rfl ?_
  show WP E ad 6 [some (.ref (ad 33)), some (.ref (ad 1)), some (.int a), some (.ref (ad 57)), some (.int z1), some (.int z2), none, none] [] σ
  refine s_iconst C dX0_isMet_6 (by decide) (fun z3 tz3 => ?_)
  refine s_istore C dX0_isMet_7 (by decide) (Nat.le_of_ble_eq_true rfl) rfl ?_
  show WP E ad 9 [some (.ref (ad 33)), some (.ref (ad 1)), some (.int a), some (.ref (ad 57)), some (.int z1), some (.int z2), some (.int z3), none] [] σ
  exact L_isMet_2 l ad E σ a hg C X 100 σ z1 z2 z3 Fr.rf hX (by omega) (by omega) (by omega)
