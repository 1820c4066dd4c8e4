set_option maxRecDepth 100000 in
theorem f_begin (l : Launch) (ad : Nat → Nat) (σ : Sg)  (hX : IX σ.1)  : Mt l yX1_begin cX1_begin 1 none 0 ad σ [.ref (ad 68)] (oV (fun τ => IX τ.1 ∧ Fr [] [(66, 1), (68, 2)] σ τ ∧ (τ.1 66 1).toInt = 0)) := by
  refine Mt_intro (by decide +kernel) (by simp [lg_sl, Value.category]) (fun E C X => ?_)
  show WP E ad 0 [some (.ref (ad 68))] [] σ
  refine s_aload_n C dX1_begin_0 rfl ?_
  refine s_getr (k := 0) (j := 66) C y68 fw_X1_19 rfl dX1_begin_1 ?_
  refine s_iconst C dX1_begin_4 (by decide) (fun z1 tz1 => ?_)
  refine s_put (k := 1) C y66 fw_X1_27 fp_7_1 rfl dX1_begin_5 ?_
  refine s_aload_n C dX1_begin_8 rfl ?_
  refine s_iconst C dX1_begin_9 (by decide) (fun z2 tz2 => ?_)
  refine s_put (k := 2) C y68 fw_X1_9 fp_1_2 rfl dX1_begin_10 ?_
  exact s_vret C X dX1_begin_13 ⟨⟨hX.1, hX.2.1, hX.2.2.1, hX.2.2.2.1, hX.2.2.2.2.1, hX.2.2.2.2.2.1, hX.2.2.2.2.2.2.1, hX.2.2.2.2.2.2.2.1, hX.2.2.2.2.2.2.2.2.1, hX.2.2.2.2.2.2.2.2.2.1, hX.2.2.2.2.2.2.2.2.2.2.1, hX.2.2.2.2.2.2.2.2.2.2.2.1, ⟨hX.tl, (by show 0 ≤ Int32.toInt z1 ∧ Int32.toInt z1 ≤ 60; omega)⟩, ⟨(by show 0 ≤ Int32.toInt z2 ∧ Int32.toInt z2 ≤ 60; omega), hX.CR.2⟩⟩, (Fr.sV (Fr.sV Fr.rf (Or.inr (by decide))) (Or.inr (by decide))), (by show Int32.toInt z1 = 0; omega)⟩
set_option maxRecDepth 100000 in
theorem f_isAtEnd (l : Launch) (ad : Nat → Nat) (σ : Sg)   : Mt l yX8_isAtEnd cX8_isAtEnd 1 (some .boolean) 0 ad σ [.ref (ad 66)] (oI (fun r τ => τ = σ ∧ (r.toInt = 0 ∨ r.toInt = 1) ∧ (r.toInt = 1 → ¬ (σ.1 66 1).toInt < (σ.1 66 0).toInt) ∧ (r.toInt = 0 → (σ.1 66 1).toInt < (σ.1 66 0).toInt))) := by
  refine Mt_intro (by decide +kernel) (by simp [lg_sl, Value.category]) (fun E C X => ?_)
  show WP E ad 0 [some (.ref (ad 66))] [] σ
  refine s_aload_n C dX8_isAtEnd_0 rfl ?_
  refine s_get (k := 1) (x := (σ.1 66 1)) C y66 fw_X8_15 rfl rfl dX8_isAtEnd_1 ?_
  refine s_aload_n C dX8_isAtEnd_4 rfl ?_
  refine s_get (k := 0) (x := (σ.1 66 0)) C y66 fw_X8_9 rfl rfl dX8_isAtEnd_5 ?_
  refine s_icmp_lt (tgt := 15) C dX8_isAtEnd_8 (by decide) (fun q1 => ?_) (fun q1 => ?_)
  · refine s_iconst C dX8_isAtEnd_15 (by decide) (fun z2 tz2 => ?_)
    exact s_zret C (by omega) X dX8_isAtEnd_16 ⟨rfl, by omega⟩
  · refine s_iconst C dX8_isAtEnd_11 (by decide) (fun z3 tz3 => ?_)
    refine s_goto (tgt := 16) C dX8_isAtEnd_12 (by decide) ?_
    exact s_zret C (by omega) X dX8_isAtEnd_16 ⟨rfl, by omega⟩
set_option maxRecDepth 100000 in
theorem f_X9_read (l : Launch) (ad : Nat → Nat) (σ : Sg) (c : Int32) (hX : IX σ.1) (t : Nat → Int32) (n : Nat) (pr : Int) (ht : σ.1 67 = t) (hn : (σ.1 66 0).toInt = n) (hp : (σ.1 1 0).toInt = pr) : MtN (.methodLinkNest RX9 239 yX1_readCondition "RunCuts") l yX9_read cX9_read 4 (some .int) 22 ad σ [.ref (ad 0), .int c] (oI (fun r τ => IX τ.1 ∧ Fr [69, 43, 44, 45] [(66, 0), (66, 1), (68, 2), (31, 0), (31, 1), (32, 0), (32, 1), (33, 0), (33, 1), (37, 3), (38, 3), (39, 3)] σ τ ∧ (((0 ≤ c.toInt ∧ c.toInt ≤ 2) ∧ (τ.1 66 0).toInt = 0) ∨ (¬ (0 ≤ c.toInt ∧ c.toInt ≤ 2) ∧ r.toInt = -1 ∧ τ.1 66 0 = σ.1 66 0)) ∧ ((0 ≤ c.toInt ∧ c.toInt ≤ 2 → r.toInt = rdA (Au pr t n 0 [] 0) n) ∧ (¬ (0 ≤ c.toInt ∧ c.toInt ≤ 2) → r.toInt = -1)))) := by
  refine MtN_intro (by decide +kernel) (by simp [lg_sl, Value.category]) (fun E C X hN => ?_)
  show WP E ad 0 [some (.ref (ad 0)), some (.int c), none, none] [] σ
  refine s_iload_n C dX9_read_0 rfl ?_
  refine s_callSI (st := []) C (c_X9_isCondition l ad σ c ) cv_X9_233 rfl rfl ⟨by decide, by decide⟩ (Nat.le_of_ble_eq_true rfl) dX9_read_1 ?_
  intro r1 τ2 h3
  obtain ⟨eh3, h3⟩ := h3; replace eh3 := eh3.symm; subst eh3
  refine s_if_ne (tgt := 9) C dX9_read_4 (by decide) (fun q4 => ?_) (fun q4 => ?_)
  · refine s_aload_n C dX9_read_9 rfl ?_
    refine s_getr (k := 8) (j := 68) C y0 fw_X9_67 rfl dX9_read_10 ?_
    refine s_callVV (st := []) C (f_begin l ad σ hX) cv_X9_236 y68 rfl rfl rfl ⟨by decide, by decide⟩ (Nat.le_of_ble_eq_true rfl) dX9_read_13 ?_
    intro τ6 h7
    have hXτ6 := h7.1
    have hbτ6 := h7.2.2
    have pzτ6 : pl τ6.1 = 0 := by unfold pl; omega
    have hSτ6 : TS t n pr τ6.1 := ⟨(h7.2.1.a 67 (by decide) (by decide)).trans ht, (congrArg Int32.toInt (h7.2.1.f 66 0 (by decide) (by decide))).trans hn, (congrArg Int32.toInt (h7.2.1.f 1 0 (by decide) (by decide))).trans hp, (by rw [pzτ6]; omega), (by omega)⟩
    refine s_aload_n C dX9_read_16 rfl ?_
    refine s_getr (k := 8) (j := 68) C y0 fw_X9_67 rfl dX9_read_17 ?_
    refine s_iconst C dX9_read_20 (by decide) (fun z8 tz8 => ?_)
    refine s_callNI (st := []) C hN (f_readCondition_0 l ad τ6 z8 hXτ6 t n pr hSτ6 (by omega)) vn_read y68 rfl rfl rfl ⟨by decide, by decide⟩ (Nat.le_of_ble_eq_true rfl) dX9_read_21 ?_
    intro r9 τ10 h11
    have hXτ10 := h11.1
    have hSτ10 := h11.2.2.1
    have bh11 := h11.2.2.2.1
    have pτ10 : pl τ10.1 ≤ n := hSτ10.2.2.2.2
    have peτ10 := hSτ10.2.2.2.1
    have neτ10 := hSτ10.2.1
    have ah11 := h11.2.2.2.2 [] rfl rfl
    rw [pzτ6] at ah11
    have tpτ10 := hXτ10.tp
    refine s_if_eq (tgt := 41) C dX9_read_24 (by decide) (fun q12 => ?_) (fun q12 => ?_)
    · have hF : Au pr t n 0 [] 0 = pl τ10.1 := ah11.2 (by omega)
      refine s_iconst C dX9_read_41 (by decide) (fun z13 tz13 => ?_)
      refine s_istore_n C dX9_read_42 (by decide) (Nat.le_of_ble_eq_true rfl) rfl ?_
      show WP E ad 43 [some (.ref (ad 0)), some (.int c), some (.int z13), none] [] τ10
      refine s_aload_n C dX9_read_43 rfl ?_
      refine s_getr (k := 7) (j := 66) C y0 fw_X9_45 rfl dX9_read_44 ?_
      refine s_get (k := 1) (x := (τ10.1 66 1)) C y66 fw_X9_246 rfl rfl dX9_read_47 ?_
      refine s_istore_n C dX9_read_50 (by decide) (Nat.le_of_ble_eq_true rfl) rfl ?_
      show WP E ad 51 [some (.ref (ad 0)), some (.int c), some (.int z13), some (.int (τ10.1 66 1))] [] τ10
      refine s_aload_n C dX9_read_51 rfl ?_
      refine s_getr (k := 7) (j := 66) C y0 fw_X9_45 rfl dX9_read_52 ?_
      refine s_callVV (st := []) C (c_X8_clear l ad τ10  hXτ10 ) cv_X9_249 y66 rfl rfl rfl ⟨by decide, by decide⟩ (Nat.le_of_ble_eq_true rfl) dX9_read_55 ?_
      intro τ15 h16
      have hXτ15 := h16.1
      have hRτ15 := h16.2.2
      have tpτ15 := hXτ15.tp
      refine s_iload_n C dX9_read_58 rfl ?_
      refine s_if_ne (tgt := 67) C dX9_read_59 (by decide) (fun q17 => ?_) (fun q17 => ?_)
      · omega
      · refine s_bipush C dX9_read_62 (by decide) (fun z18 tz18 => ?_)
        refine s_iload_n C dX9_read_64 rfl ?_
        refine s_isub C dX9_read_65 (by omega) (fun z19 tz19 => ?_)
        exact s_iret C X dX9_read_66 ⟨hXτ15, (Fr.tr (Fr.tr (Fr.tr Fr.rf (Fr.mo h7.2.1 (by decide) (by decide))) (Fr.mo h11.2.1 (by decide) (by decide))) (Fr.mo h16.2.1 (by decide) (by decide))), Or.inl ⟨by omega, hRτ15.1⟩, ⟨(fun _ => by unfold rdA; rw [hF, if_neg (by omega)]; omega), fun q => by omega⟩⟩
    · have q9 := ah11.1 (by omega)
      refine s_aload_n C dX9_read_27 rfl ?_
      refine s_getr (k := 7) (j := 66) C y0 fw_X9_45 rfl dX9_read_28 ?_
      refine s_callVI (st := []) C (f_isAtEnd l ad τ10) cv_X9_242 y66 rfl rfl rfl ⟨by decide, by decide⟩ (Nat.le_of_ble_eq_true rfl) dX9_read_31 ?_
      intro r20 τ21 h22
      obtain ⟨eh22, h22⟩ := h22; replace eh22 := eh22.symm; subst eh22
      refine s_if_eq (tgt := 41) C dX9_read_34 (by decide) (fun q23 => ?_) (fun q23 => ?_)
      · have hF : Au pr t n 0 [] 0 = pl τ10.1 := by rw [q9.1]; exact A_stop3 (by omega) q9.2.2 (Or.inr (Or.inr (by simp))) (Or.inl (by omega))
        refine s_iconst C dX9_read_41 (by decide) (fun z24 tz24 => ?_)
        refine s_istore_n C dX9_read_42 (by decide) (Nat.le_of_ble_eq_true rfl) rfl ?_
        show WP E ad 43 [some (.ref (ad 0)), some (.int c), some (.int z24), none] [] τ10
        refine s_aload_n C dX9_read_43 rfl ?_
        refine s_getr (k := 7) (j := 66) C y0 fw_X9_45 rfl dX9_read_44 ?_
        refine s_get (k := 1) (x := (τ10.1 66 1)) C y66 fw_X9_246 rfl rfl dX9_read_47 ?_
        refine s_istore_n C dX9_read_50 (by decide) (Nat.le_of_ble_eq_true rfl) rfl ?_
        show WP E ad 51 [some (.ref (ad 0)), some (.int c), some (.int z24), some (.int (τ10.1 66 1))] [] τ10
        refine s_aload_n C dX9_read_51 rfl ?_
        refine s_getr (k := 7) (j := 66) C y0 fw_X9_45 rfl dX9_read_52 ?_
        refine s_callVV (st := []) C (c_X8_clear l ad τ10  hXτ10 ) cv_X9_249 y66 rfl rfl rfl ⟨by decide, by decide⟩ (Nat.le_of_ble_eq_true rfl) dX9_read_55 ?_
        intro τ26 h27
        have hXτ26 := h27.1
        have hRτ26 := h27.2.2
        have tpτ26 := hXτ26.tp
        refine s_iload_n C dX9_read_58 rfl ?_
        refine s_if_ne (tgt := 67) C dX9_read_59 (by decide) (fun q28 => ?_) (fun q28 => ?_)
        · omega
        · refine s_bipush C dX9_read_62 (by decide) (fun z29 tz29 => ?_)
          refine s_iload_n C dX9_read_64 rfl ?_
          refine s_isub C dX9_read_65 (by omega) (fun z30 tz30 => ?_)
          exact s_iret C X dX9_read_66 ⟨hXτ26, (Fr.tr (Fr.tr (Fr.tr Fr.rf (Fr.mo h7.2.1 (by decide) (by decide))) (Fr.mo h11.2.1 (by decide) (by decide))) (Fr.mo h27.2.1 (by decide) (by decide))), Or.inl ⟨by omega, hRτ26.1⟩, ⟨(fun _ => by unfold rdA; rw [hF, if_neg (by omega)]; omega), fun q => by omega⟩⟩
      · have hF : Au pr t n 0 [] 0 = -1 := by rw [q9.1, Au_end (by omega)]; exact if_neg (by simp)
        refine s_iconst C dX9_read_37 (by decide) (fun z31 tz31 => ?_)
        refine s_goto (tgt := 42) C dX9_read_38 (by decide) ?_
        refine s_istore_n C dX9_read_42 (by decide) (Nat.le_of_ble_eq_true rfl) rfl ?_
        show WP E ad 43 [some (.ref (ad 0)), some (.int c), some (.int z31), none] [] τ10
        refine s_aload_n C dX9_read_43 rfl ?_
        refine s_getr (k := 7) (j := 66) C y0 fw_X9_45 rfl dX9_read_44 ?_
        refine s_get (k := 1) (x := (τ10.1 66 1)) C y66 fw_X9_246 rfl rfl dX9_read_47 ?_
        refine s_istore_n C dX9_read_50 (by decide) (Nat.le_of_ble_eq_true rfl) rfl ?_
        show WP E ad 51 [some (.ref (ad 0)), some (.int c), some (.int z31), some (.int (τ10.1 66 1))] [] τ10
        refine s_aload_n C dX9_read_51 rfl ?_
        refine s_getr (k := 7) (j := 66) C y0 fw_X9_45 rfl dX9_read_52 ?_
        refine s_callVV (st := []) C (c_X8_clear l ad τ10  hXτ10 ) cv_X9_249 y66 rfl rfl rfl ⟨by decide, by decide⟩ (Nat.le_of_ble_eq_true rfl) dX9_read_55 ?_
        intro τ33 h34
        have hXτ33 := h34.1
        have hRτ33 := h34.2.2
        have tpτ33 := hXτ33.tp
        refine s_iload_n C dX9_read_58 rfl ?_
        refine s_if_ne (tgt := 67) C dX9_read_59 (by decide) (fun q35 => ?_) (fun q35 => ?_)
        · obtain hc36 | hc36 | hc36 : c.toInt = 0 ∨ c.toInt = 1 ∨ c.toInt = 2 := by omega
          · have hnhc36 : c.toNatClampNeg = 0 := by unfold Int32.toNatClampNeg; omega
            refine s_aload_n C dX9_read_67 rfl ?_
            refine s_getr (k := 8) (j := 68) C y0 fw_X9_67 rfl dX9_read_68 ?_
            refine s_aload_n C dX9_read_71 rfl ?_
            refine s_getr (k := 2) (j := 27) C y0 fw_X9_23 rfl dX9_read_72 ?_
            refine s_iload_n C dX9_read_75 rfl ?_
            refine s_aald (kd := 0) C y27 ⟨_, rfl⟩ (by omega) dX9_read_76 ?_
            rw [show c.toNatClampNeg = 0 by unfold Int32.toNatClampNeg; omega]
            refine s_callVV (st := []) C (c_X1_handTo_0 l ad τ33  hXτ33 ) cv_X9_252 y68 rfl rfl rfl ⟨by decide, by decide⟩ (Nat.le_of_ble_eq_true rfl) dX9_read_77 ?_
            intro τ38 h39
            have hXτ38 := h39.1
            have hRτ38 := h39.2.2
            have tpτ38 := hXτ38.tp
            refine s_aload_n C dX9_read_80 rfl ?_
            refine s_getr (k := 4) (j := 29) C y0 fw_X9_32 rfl dX9_read_81 ?_
            refine s_iload_n C dX9_read_84 rfl ?_
            refine s_aald (kd := 1) C y29 ⟨_, rfl⟩ (by omega) dX9_read_85 ?_
            rw [show c.toNatClampNeg = 0 by unfold Int32.toNatClampNeg; omega]
            refine s_iconst C dX9_read_86 (by decide) (fun z40 tz40 => ?_)
            refine s_putz (k := 3) C y37 fw_X9_256 fp_6_3 rfl (by omega) dX9_read_87 ?_
            refine s_iload_n C dX9_read_90 rfl ?_
            exact s_iret C X dX9_read_91 ⟨hXτ38, (Fr.sV (Fr.tr (Fr.tr (Fr.tr (Fr.tr Fr.rf (Fr.mo h7.2.1 (by decide) (by decide))) (Fr.mo h11.2.1 (by decide) (by decide))) (Fr.mo h34.2.1 (by decide) (by decide))) (Fr.mo h39.2.1 (by decide) (by decide))) (Or.inr (by decide))), Or.inl ⟨by omega, (congrArg Int32.toInt ((h39.2.1).f 66 0 (by decide) (by decide))).trans hRτ33.1⟩, ⟨(fun _ => by unfold rdA; rw [hF, if_pos (by omega)]; omega), fun q => by omega⟩⟩
          · have hnhc36 : c.toNatClampNeg = 1 := by unfold Int32.toNatClampNeg; omega
            refine s_aload_n C dX9_read_67 rfl ?_
            refine s_getr (k := 8) (j := 68) C y0 fw_X9_67 rfl dX9_read_68 ?_
            refine s_aload_n C dX9_read_71 rfl ?_
            refine s_getr (k := 2) (j := 27) C y0 fw_X9_23 rfl dX9_read_72 ?_
            refine s_iload_n C dX9_read_75 rfl ?_
            refine s_aald (kd := 0) C y27 ⟨_, rfl⟩ (by omega) dX9_read_76 ?_
            rw [show c.toNatClampNeg = 1 by unfold Int32.toNatClampNeg; omega]
            refine s_callVV (st := []) C (c_X1_handTo_1 l ad τ33  hXτ33 ) cv_X9_252 y68 rfl rfl rfl ⟨by decide, by decide⟩ (Nat.le_of_ble_eq_true rfl) dX9_read_77 ?_
            intro τ42 h43
            have hXτ42 := h43.1
            have hRτ42 := h43.2.2
            have tpτ42 := hXτ42.tp
            refine s_aload_n C dX9_read_80 rfl ?_
            refine s_getr (k := 4) (j := 29) C y0 fw_X9_32 rfl dX9_read_81 ?_
            refine s_iload_n C dX9_read_84 rfl ?_
            refine s_aald (kd := 1) C y29 ⟨_, rfl⟩ (by omega) dX9_read_85 ?_
            rw [show c.toNatClampNeg = 1 by unfold Int32.toNatClampNeg; omega]
            refine s_iconst C dX9_read_86 (by decide) (fun z44 tz44 => ?_)
            refine s_putz (k := 3) C y38 fw_X9_256 fp_6_3 rfl (by omega) dX9_read_87 ?_
            refine s_iload_n C dX9_read_90 rfl ?_
            exact s_iret C X dX9_read_91 ⟨hXτ42, (Fr.sV (Fr.tr (Fr.tr (Fr.tr (Fr.tr Fr.rf (Fr.mo h7.2.1 (by decide) (by decide))) (Fr.mo h11.2.1 (by decide) (by decide))) (Fr.mo h34.2.1 (by decide) (by decide))) (Fr.mo h43.2.1 (by decide) (by decide))) (Or.inr (by decide))), Or.inl ⟨by omega, (congrArg Int32.toInt ((h43.2.1).f 66 0 (by decide) (by decide))).trans hRτ33.1⟩, ⟨(fun _ => by unfold rdA; rw [hF, if_pos (by omega)]; omega), fun q => by omega⟩⟩
          · have hnhc36 : c.toNatClampNeg = 2 := by unfold Int32.toNatClampNeg; omega
            refine s_aload_n C dX9_read_67 rfl ?_
            refine s_getr (k := 8) (j := 68) C y0 fw_X9_67 rfl dX9_read_68 ?_
            refine s_aload_n C dX9_read_71 rfl ?_
            refine s_getr (k := 2) (j := 27) C y0 fw_X9_23 rfl dX9_read_72 ?_
            refine s_iload_n C dX9_read_75 rfl ?_
            refine s_aald (kd := 0) C y27 ⟨_, rfl⟩ (by omega) dX9_read_76 ?_
            rw [show c.toNatClampNeg = 2 by unfold Int32.toNatClampNeg; omega]
            refine s_callVV (st := []) C (c_X1_handTo_2 l ad τ33  hXτ33 ) cv_X9_252 y68 rfl rfl rfl ⟨by decide, by decide⟩ (Nat.le_of_ble_eq_true rfl) dX9_read_77 ?_
            intro τ46 h47
            have hXτ46 := h47.1
            have hRτ46 := h47.2.2
            have tpτ46 := hXτ46.tp
            refine s_aload_n C dX9_read_80 rfl ?_
            refine s_getr (k := 4) (j := 29) C y0 fw_X9_32 rfl dX9_read_81 ?_
            refine s_iload_n C dX9_read_84 rfl ?_
            refine s_aald (kd := 1) C y29 ⟨_, rfl⟩ (by omega) dX9_read_85 ?_
            rw [show c.toNatClampNeg = 2 by unfold Int32.toNatClampNeg; omega]
            refine s_iconst C dX9_read_86 (by decide) (fun z48 tz48 => ?_)
            refine s_putz (k := 3) C y39 fw_X9_256 fp_6_3 rfl (by omega) dX9_read_87 ?_
            refine s_iload_n C dX9_read_90 rfl ?_
            exact s_iret C X dX9_read_91 ⟨hXτ46, (Fr.sV (Fr.tr (Fr.tr (Fr.tr (Fr.tr Fr.rf (Fr.mo h7.2.1 (by decide) (by decide))) (Fr.mo h11.2.1 (by decide) (by decide))) (Fr.mo h34.2.1 (by decide) (by decide))) (Fr.mo h47.2.1 (by decide) (by decide))) (Or.inr (by decide))), Or.inl ⟨by omega, (congrArg Int32.toInt ((h47.2.1).f 66 0 (by decide) (by decide))).trans hRτ33.1⟩, ⟨(fun _ => by unfold rdA; rw [hF, if_pos (by omega)]; omega), fun q => by omega⟩⟩
        · omega
  · refine s_iconst C dX9_read_7 (by decide) (fun z49 tz49 => ?_)
    exact s_iret C X dX9_read_8 ⟨hX, Fr.rf, Or.inr ⟨by omega, by omega, rfl⟩, ⟨fun q => by omega, fun _ => by omega⟩⟩
set_option maxRecDepth 100000 in
theorem f_append (l : Launch) (ad : Nat → Nat) (σ : Sg) (c : Int32) (hX : IX σ.1) (hl : (σ.1 66 0).toInt < 60) : Mt l yX8_append cX8_append 2 none 0 ad σ [.ref (ad 66), .int c] (oV (fun τ => IX τ.1 ∧ Fr [67] [(66, 0)] σ τ ∧ (τ.1 66 0).toInt = (σ.1 66 0).toInt + 1 ∧ τ.1 67 = upd (σ.1 67) (σ.1 66 0).toNatClampNeg c)) := by
  have htl := hX.tl
  have htp := hX.tp
  refine Mt_intro (by decide +kernel) (by simp [lg_sl, Value.category]) (fun E C X => ?_)
  show WP E ad 0 [some (.ref (ad 66)), some (.int c)] [] σ
  refine s_aload_n C dX8_append_0 rfl ?_
  refine s_getr (k := 2) (j := 67) C y66 fw_X8_18 rfl dX8_append_1 ?_
  refine s_aload_n C dX8_append_4 rfl ?_
  refine s_get (k := 0) (x := (σ.1 66 0)) C y66 fw_X8_9 rfl rfl dX8_append_5 ?_
  refine s_iload_n C dX8_append_8 rfl ?_
  refine s_iast C y67 (by omega) dX8_append_9 ?_
  refine s_aload_n C dX8_append_10 rfl ?_
  refine s_dup C dX8_append_11 rfl ?_
  refine s_get (k := 0) (x := (σ.1 66 0)) C y66 fw_X8_9 rfl rfl dX8_append_12 ?_
  refine s_iconst C dX8_append_15 (by decide) (fun z1 tz1 => ?_)
  refine s_iadd C dX8_append_16 (by omega) (fun z2 tz2 => ?_)
  refine s_put (k := 0) C y66 fw_X8_9 fp_7_0 rfl dX8_append_17 ?_
  exact s_vret C X dX8_append_20 ⟨⟨hX.1, hX.2.1, hX.2.2.1, hX.2.2.2.1, hX.2.2.2.2.1, hX.2.2.2.2.2.1, hX.2.2.2.2.2.2.1, hX.2.2.2.2.2.2.2.1, hX.2.2.2.2.2.2.2.2.1, hX.2.2.2.2.2.2.2.2.2.1, hX.2.2.2.2.2.2.2.2.2.2.1, hX.2.2.2.2.2.2.2.2.2.2.2.1, ⟨(by show 0 ≤ Int32.toInt z2 ∧ Int32.toInt z2 ≤ 60; omega), (by show 0 ≤ Int32.toInt (σ.1 66 1) ∧ Int32.toInt (σ.1 66 1) ≤ 60; omega)⟩, hX.2.2.2.2.2.2.2.2.2.2.2.2.2⟩, (Fr.sV (Fr.sV Fr.rf (Or.inl (by decide))) (Or.inr (by decide))), (by show Int32.toInt z2 = _; omega), rfl⟩
set_option maxRecDepth 100000 in
theorem f_X9_feed (l : Launch) (ad : Nat → Nat) (σ : Sg) (c : Int32) (hX : IX σ.1)  : Mt l yX9_feed cX9_feed 2 (some .int) 1 ad σ [.ref (ad 0), .int c] (oI (fun r τ => IX τ.1 ∧ Fr [67] [(66, 0)] σ τ ∧ ((¬ (32 ≤ c.toInt ∧ c.toInt ≤ 126) ∧ r.toInt = -2 ∧ τ.1 66 0 = σ.1 66 0) ∨ ((32 ≤ c.toInt ∧ c.toInt ≤ 126) ∧ 60 ≤ (σ.1 66 0).toInt ∧ r.toInt = -4 ∧ τ.1 66 0 = σ.1 66 0) ∨ ((32 ≤ c.toInt ∧ c.toInt ≤ 126) ∧ (σ.1 66 0).toInt < 60 ∧ r.toInt = (σ.1 66 0).toInt + 1 ∧ (τ.1 66 0).toInt = (σ.1 66 0).toInt + 1)) ∧ ((32 ≤ c.toInt ∧ c.toInt ≤ 126 ∧ (σ.1 66 0).toInt < 60) → τ.1 67 = upd (σ.1 67) (σ.1 66 0).toNatClampNeg c) ∧ (¬ (32 ≤ c.toInt ∧ c.toInt ≤ 126 ∧ (σ.1 66 0).toInt < 60) → τ.1 67 = σ.1 67))) := by
  have htl := hX.tl
  refine Mt_intro (by decide +kernel) (by simp [lg_sl, Value.category]) (fun E C X => ?_)
  show WP E ad 0 [some (.ref (ad 0)), some (.int c)] [] σ
  refine s_iload_n C dX9_feed_0 rfl ?_
  refine s_bipush C dX9_feed_1 (by decide) (fun z1 tz1 => ?_)
  refine s_icmp_lt (tgt := 12) C dX9_feed_3 (by decide) (fun q2 => ?_) (fun q2 => ?_)
  · refine s_bipush C dX9_feed_12 (by decide) (fun z3 tz3 => ?_)
    exact s_iret C X dX9_feed_14 ⟨hX, Fr.rf, (by first | exact Or.inl ⟨by omega, by omega, rfl⟩ | exact Or.inr (Or.inl ⟨by omega, by omega, by omega, rfl⟩)), (fun q => by omega), fun _ => rfl⟩
  · refine s_iload_n C dX9_feed_6 rfl ?_
    refine s_bipush C dX9_feed_7 (by decide) (fun z4 tz4 => ?_)
    refine s_icmp_le (tgt := 15) C dX9_feed_9 (by decide) (fun q5 => ?_) (fun q5 => ?_)
    · refine s_aload_n C dX9_feed_15 rfl ?_
      refine s_getr (k := 7) (j := 66) C y0 fw_X9_45 rfl dX9_feed_16 ?_
      refine s_get (k := 0) (x := (σ.1 66 0)) C y66 fw_X9_291 rfl rfl dX9_feed_19 ?_
      refine s_bipush C dX9_feed_22 (by decide) (fun z6 tz6 => ?_)
      refine s_icmp_lt (tgt := 30) C dX9_feed_24 (by decide) (fun q7 => ?_) (fun q7 => ?_)
      · refine s_aload_n C dX9_feed_30 rfl ?_
        refine s_getr (k := 7) (j := 66) C y0 fw_X9_45 rfl dX9_feed_31 ?_
        refine s_iload_n C dX9_feed_34 rfl ?_
        refine s_callVV (st := []) C (f_append l ad σ c hX (by omega)) cv_X9_294 y66 rfl rfl rfl ⟨by decide, by decide⟩ (Nat.le_of_ble_eq_true rfl) dX9_feed_35 ?_
        intro τ9 h10
        have hXτ9 := h10.1
        have hRτ9 := h10.2.2.1
        have hAτ9 := h10.2.2.2
        refine s_aload_n C dX9_feed_38 rfl ?_
        refine s_getr (k := 7) (j := 66) C y0 fw_X9_45 rfl dX9_feed_39 ?_
        refine s_get (k := 0) (x := (τ9.1 66 0)) C y66 fw_X9_291 rfl rfl dX9_feed_42 ?_
        exact s_iret C X dX9_feed_45 ⟨hXτ9, (Fr.tr Fr.rf (Fr.mo h10.2.1 (by decide) (by decide))), Or.inr (Or.inr ⟨by omega, by omega, hRτ9, hRτ9⟩), (fun _ => hAτ9), fun q => by omega⟩
      · refine s_bipush C dX9_feed_27 (by decide) (fun z11 tz11 => ?_)
        exact s_iret C X dX9_feed_29 ⟨hX, Fr.rf, (by first | exact Or.inl ⟨by omega, by omega, rfl⟩ | exact Or.inr (Or.inl ⟨by omega, by omega, by omega, rfl⟩)), (fun q => by omega), fun _ => rfl⟩
    · refine s_bipush C dX9_feed_12 (by decide) (fun z12 tz12 => ?_)
      exact s_iret C X dX9_feed_14 ⟨hX, Fr.rf, (by first | exact Or.inl ⟨by omega, by omega, rfl⟩ | exact Or.inr (Or.inl ⟨by omega, by omega, by omega, rfl⟩)), (fun q => by omega), fun _ => rfl⟩
