theorem vn_read : Vn RX1 yX1_readCondition cX1_readCondition 3 (some .boolean) 1 := ⟨rfl, mw 628 (by decide +kernel) rfl, mw 6 (by decide +kernel) rfl, mw 65 (by decide +kernel) rfl, cd_X1_readCondition, by decide +kernel, by decide +kernel, by decide +kernel⟩
set_option maxRecDepth 100000 in
theorem c_X9_read (l : Launch) (ad : Nat → Nat) (σ : Sg) (c : Int32) (hX : IX σ.1) : MtN (.methodLinkNest RX9 239 yX1_readCondition "RunCuts") l yX9_read cX9_read 4 (some .int) 22 ad σ [.ref (ad 0), .int c] (oI (fun r τ => IX τ.1 ∧ Fr [69, 43, 44, 45] [(66, 0), (66, 1), (68, 2), (31, 0), (31, 1), (32, 0), (32, 1), (33, 0), (33, 1), (37, 3), (38, 3), (39, 3)] σ τ ∧ (((0 ≤ c.toInt ∧ c.toInt ≤ 2) ∧ (τ.1 66 0).toInt = 0) ∨ (¬ (0 ≤ c.toInt ∧ c.toInt ≤ 2) ∧ r.toInt = -1 ∧ τ.1 66 0 = σ.1 66 0)))) := by
  refine MtN_intro (by decide +kernel) (by simp [lg_sl, Value.category]) (fun E C X hN => ?_)
  show WP E ad 0 [some (.ref (ad 0)), some (.int c), none, none] [] σ
  refine s_iload_n C dX9_read_0 rfl ?_
  refine s_callSI (st := []) C (c_X9_isCondition l ad σ c ) cv_X9_233 rfl rfl ⟨by decide, by decide⟩ (Nat.le_of_ble_eq_true rfl) dX9_read_1 ?_
  intro r1 τ2 h3
  obtain ⟨eh3, h3⟩ := h3; replace eh3 := eh3.symm; subst eh3
  refine s_if_ne (tgt := 9) C dX9_read_4 (by decide) (fun q4 => ?_) (fun q4 => ?_)
  · refine s_aload_n C dX9_read_9 rfl ?_
    refine s_getr (k := 8) (j := 68) C y0 fw_X9_67 rfl dX9_read_10 ?_
    refine s_callVV (st := []) C (c_X1_begin l ad σ  hX ) cv_X9_236 y68 rfl rfl rfl ⟨by decide, by decide⟩ (Nat.le_of_ble_eq_true rfl) dX9_read_13 ?_
    intro τ6 h7
    have hXτ6 := h7.1
    have hRτ6 := h7.2.2
    have tpτ6 := hXτ6.tp
    refine s_aload_n C dX9_read_16 rfl ?_
    refine s_getr (k := 8) (j := 68) C y0 fw_X9_67 rfl dX9_read_17 ?_
    refine s_iconst C dX9_read_20 (by decide) (fun z8 tz8 => ?_)
    refine s_callNI (st := []) C hN (c_X1_readCondition_0 l ad τ6 z8 hXτ6 (by omega)) vn_read y68 rfl rfl rfl ⟨by decide, by decide⟩ (Nat.le_of_ble_eq_true rfl) dX9_read_21 ?_
    intro r9 τ10 h11
    have hXτ10 := h11.1
    have hRτ10 := h11.2.2
    have tpτ10 := hXτ10.tp
    refine s_if_eq (tgt := 41) C dX9_read_24 (by decide) (fun q12 => ?_) (fun q12 => ?_)
    · refine s_iconst C dX9_read_41 (by decide) (fun z13 tz13 => ?_)
      refine s_istore_n C dX9_read_42 (by decide) (Nat.le_of_ble_eq_true rfl) rfl ?_
      show WP E ad 43 [some (.ref (ad 0)), some (.int c), some (.int z13), none] [] τ10
      refine s_aload_n C dX9_read_43 rfl ?_
      refine s_getr (k := 7) (j := 66) C y0 fw_X9_45 rfl dX9_read_44 ?_
      refine s_get (k := 1) (x := (τ10.1 66 1)) C y66 fw_X9_246 rfl rfl dX9_read_47 ?_
      refine s_istore_n C dX9_read_50 (by decide) (Nat.le_of_ble_eq_true rfl) rfl ?_
      show WP E ad 51 [some (.ref (ad 0)), some (.int c), some (.int z13), some (.int (τ10.1 66 1))] [] τ10
      refine s_aload_n C dX9_read_51 rfl ?_
      refine s_getr (k := 7) (j := 66) C y0 fw_X9_45 rfl dX9_read_52 ?_
      refine s_callVV (st := []) C (c_X8_clear l ad τ10  hXτ10 ) cv_X9_249 y66 rfl rfl rfl ⟨by decide, by decide⟩ (Nat.le_of_ble_eq_true rfl) dX9_read_55 ?_
      intro τ15 h16
      have hXτ15 := h16.1
      have hRτ15 := h16.2.2
      have tpτ15 := hXτ15.tp
      refine s_iload_n C dX9_read_58 rfl ?_
      refine s_if_ne (tgt := 67) C dX9_read_59 (by decide) (fun q17 => ?_) (fun q17 => ?_)
      · obtain hc18 | hc18 | hc18 : c.toInt = 0 ∨ c.toInt = 1 ∨ c.toInt = 2 := by omega
        · have hnhc18 : c.toNatClampNeg = 0 := by unfold Int32.toNatClampNeg; omega
          refine s_aload_n C dX9_read_67 rfl ?_
          refine s_getr (k := 8) (j := 68) C y0 fw_X9_67 rfl dX9_read_68 ?_
          refine s_aload_n C dX9_read_71 rfl ?_
          refine s_getr (k := 2) (j := 27) C y0 fw_X9_23 rfl dX9_read_72 ?_
          refine s_iload_n C dX9_read_75 rfl ?_
          refine s_aald (kd := 0) C y27 ⟨_, rfl⟩ (by omega) dX9_read_76 ?_
          rw [show c.toNatClampNeg = 0 by unfold Int32.toNatClampNeg; omega]
          refine s_callVV (st := []) C (c_X1_handTo_0 l ad τ15  hXτ15 ) cv_X9_252 y68 rfl rfl rfl ⟨by decide, by decide⟩ (Nat.le_of_ble_eq_true rfl) dX9_read_77 ?_
          intro τ20 h21
          have hXτ20 := h21.1
          have hRτ20 := h21.2.2
          have tpτ20 := hXτ20.tp
          refine s_aload_n C dX9_read_80 rfl ?_
          refine s_getr (k := 4) (j := 29) C y0 fw_X9_32 rfl dX9_read_81 ?_
          refine s_iload_n C dX9_read_84 rfl ?_
          refine s_aald (kd := 1) C y29 ⟨_, rfl⟩ (by omega) dX9_read_85 ?_
          rw [show c.toNatClampNeg = 0 by unfold Int32.toNatClampNeg; omega]
          refine s_iconst C dX9_read_86 (by decide) (fun z22 tz22 => ?_)
          refine s_putz (k := 3) C y37 fw_X9_256 fp_6_3 rfl (by omega) dX9_read_87 ?_
          refine s_iload_n C dX9_read_90 rfl ?_
          exact s_iret C X dX9_read_91 ⟨hXτ20, (Fr.sV (Fr.tr (Fr.tr (Fr.tr (Fr.tr Fr.rf (Fr.mo h7.2.1 (by decide) (by decide))) (Fr.mo h11.2.1 (by decide) (by decide))) (Fr.mo h16.2.1 (by decide) (by decide))) (Fr.mo h21.2.1 (by decide) (by decide))) (Or.inr (by decide))), Or.inl ⟨by omega, (congrArg Int32.toInt ((h21.2.1).f 66 0 (by decide) (by decide))).trans hRτ15.1⟩⟩
        · have hnhc18 : c.toNatClampNeg = 1 := by unfold Int32.toNatClampNeg; omega
          refine s_aload_n C dX9_read_67 rfl ?_
          refine s_getr (k := 8) (j := 68) C y0 fw_X9_67 rfl dX9_read_68 ?_
          refine s_aload_n C dX9_read_71 rfl ?_
          refine s_getr (k := 2) (j := 27) C y0 fw_X9_23 rfl dX9_read_72 ?_
          refine s_iload_n C dX9_read_75 rfl ?_
          refine s_aald (kd := 0) C y27 ⟨_, rfl⟩ (by omega) dX9_read_76 ?_
          rw [show c.toNatClampNeg = 1 by unfold Int32.toNatClampNeg; omega]
          refine s_callVV (st := []) C (c_X1_handTo_1 l ad τ15  hXτ15 ) cv_X9_252 y68 rfl rfl rfl ⟨by decide, by decide⟩ (Nat.le_of_ble_eq_true rfl) dX9_read_77 ?_
          intro τ24 h25
          have hXτ24 := h25.1
          have hRτ24 := h25.2.2
          have tpτ24 := hXτ24.tp
          refine s_aload_n C dX9_read_80 rfl ?_
          refine s_getr (k := 4) (j := 29) C y0 fw_X9_32 rfl dX9_read_81 ?_
          refine s_iload_n C dX9_read_84 rfl ?_
          refine s_aald (kd := 1) C y29 ⟨_, rfl⟩ (by omega) dX9_read_85 ?_
          rw [show c.toNatClampNeg = 1 by unfold Int32.toNatClampNeg; omega]
          refine s_iconst C dX9_read_86 (by decide) (fun z26 tz26 => ?_)
          refine s_putz (k := 3) C y38 fw_X9_256 fp_6_3 rfl (by omega) dX9_read_87 ?_
          refine s_iload_n C dX9_read_90 rfl ?_
          exact s_iret C X dX9_read_91 ⟨hXτ24, (Fr.sV (Fr.tr (Fr.tr (Fr.tr (Fr.tr Fr.rf (Fr.mo h7.2.1 (by decide) (by decide))) (Fr.mo h11.2.1 (by decide) (by decide))) (Fr.mo h16.2.1 (by decide) (by decide))) (Fr.mo h25.2.1 (by decide) (by decide))) (Or.inr (by decide))), Or.inl ⟨by omega, (congrArg Int32.toInt ((h25.2.1).f 66 0 (by decide) (by decide))).trans hRτ15.1⟩⟩
        · have hnhc18 : c.toNatClampNeg = 2 := by unfold Int32.toNatClampNeg; omega
          refine s_aload_n C dX9_read_67 rfl ?_
          refine s_getr (k := 8) (j := 68) C y0 fw_X9_67 rfl dX9_read_68 ?_
          refine s_aload_n C dX9_read_71 rfl ?_
          refine s_getr (k := 2) (j := 27) C y0 fw_X9_23 rfl dX9_read_72 ?_
          refine s_iload_n C dX9_read_75 rfl ?_
          refine s_aald (kd := 0) C y27 ⟨_, rfl⟩ (by omega) dX9_read_76 ?_
          rw [show c.toNatClampNeg = 2 by unfold Int32.toNatClampNeg; omega]
          refine s_callVV (st := []) C (c_X1_handTo_2 l ad τ15  hXτ15 ) cv_X9_252 y68 rfl rfl rfl ⟨by decide, by decide⟩ (Nat.le_of_ble_eq_true rfl) dX9_read_77 ?_
          intro τ28 h29
          have hXτ28 := h29.1
          have hRτ28 := h29.2.2
          have tpτ28 := hXτ28.tp
          refine s_aload_n C dX9_read_80 rfl ?_
          refine s_getr (k := 4) (j := 29) C y0 fw_X9_32 rfl dX9_read_81 ?_
          refine s_iload_n C dX9_read_84 rfl ?_
          refine s_aald (kd := 1) C y29 ⟨_, rfl⟩ (by omega) dX9_read_85 ?_
          rw [show c.toNatClampNeg = 2 by unfold Int32.toNatClampNeg; omega]
          refine s_iconst C dX9_read_86 (by decide) (fun z30 tz30 => ?_)
          refine s_putz (k := 3) C y39 fw_X9_256 fp_6_3 rfl (by omega) dX9_read_87 ?_
          refine s_iload_n C dX9_read_90 rfl ?_
          exact s_iret C X dX9_read_91 ⟨hXτ28, (Fr.sV (Fr.tr (Fr.tr (Fr.tr (Fr.tr Fr.rf (Fr.mo h7.2.1 (by decide) (by decide))) (Fr.mo h11.2.1 (by decide) (by decide))) (Fr.mo h16.2.1 (by decide) (by decide))) (Fr.mo h29.2.1 (by decide) (by decide))) (Or.inr (by decide))), Or.inl ⟨by omega, (congrArg Int32.toInt ((h29.2.1).f 66 0 (by decide) (by decide))).trans hRτ15.1⟩⟩
      · refine s_bipush C dX9_read_62 (by decide) (fun z31 tz31 => ?_)
        refine s_iload_n C dX9_read_64 rfl ?_
        refine s_isub C dX9_read_65 (by omega) (fun z32 tz32 => ?_)
        exact s_iret C X dX9_read_66 ⟨hXτ15, (Fr.tr (Fr.tr (Fr.tr Fr.rf (Fr.mo h7.2.1 (by decide) (by decide))) (Fr.mo h11.2.1 (by decide) (by decide))) (Fr.mo h16.2.1 (by decide) (by decide))), Or.inl ⟨by omega, hRτ15.1⟩⟩
    · refine s_aload_n C dX9_read_27 rfl ?_
      refine s_getr (k := 7) (j := 66) C y0 fw_X9_45 rfl dX9_read_28 ?_
      refine s_callVI (st := []) C (c_X8_isAtEnd l ad τ10  ) cv_X9_242 y66 rfl rfl rfl ⟨by decide, by decide⟩ (Nat.le_of_ble_eq_true rfl) dX9_read_31 ?_
      intro r33 τ34 h35
      obtain ⟨eh35, h35⟩ := h35; replace eh35 := eh35.symm; subst eh35
      refine s_if_eq (tgt := 41) C dX9_read_34 (by decide) (fun q36 => ?_) (fun q36 => ?_)
      · refine s_iconst C dX9_read_41 (by decide) (fun z37 tz37 => ?_)
        refine s_istore_n C dX9_read_42 (by decide) (Nat.le_of_ble_eq_true rfl) rfl ?_
        show WP E ad 43 [some (.ref (ad 0)), some (.int c), some (.int z37), none] [] τ10
        refine s_aload_n C dX9_read_43 rfl ?_
        refine s_getr (k := 7) (j := 66) C y0 fw_X9_45 rfl dX9_read_44 ?_
        refine s_get (k := 1) (x := (τ10.1 66 1)) C y66 fw_X9_246 rfl rfl dX9_read_47 ?_
        refine s_istore_n C dX9_read_50 (by decide) (Nat.le_of_ble_eq_true rfl) rfl ?_
        show WP E ad 51 [some (.ref (ad 0)), some (.int c), some (.int z37), some (.int (τ10.1 66 1))] [] τ10
        refine s_aload_n C dX9_read_51 rfl ?_
        refine s_getr (k := 7) (j := 66) C y0 fw_X9_45 rfl dX9_read_52 ?_
        refine s_callVV (st := []) C (c_X8_clear l ad τ10  hXτ10 ) cv_X9_249 y66 rfl rfl rfl ⟨by decide, by decide⟩ (Nat.le_of_ble_eq_true rfl) dX9_read_55 ?_
        intro τ39 h40
        have hXτ39 := h40.1
        have hRτ39 := h40.2.2
        have tpτ39 := hXτ39.tp
        refine s_iload_n C dX9_read_58 rfl ?_
        refine s_if_ne (tgt := 67) C dX9_read_59 (by decide) (fun q41 => ?_) (fun q41 => ?_)
        · obtain hc42 | hc42 | hc42 : c.toInt = 0 ∨ c.toInt = 1 ∨ c.toInt = 2 := by omega
          · have hnhc42 : c.toNatClampNeg = 0 := by unfold Int32.toNatClampNeg; omega
            refine s_aload_n C dX9_read_67 rfl ?_
            refine s_getr (k := 8) (j := 68) C y0 fw_X9_67 rfl dX9_read_68 ?_
            refine s_aload_n C dX9_read_71 rfl ?_
            refine s_getr (k := 2) (j := 27) C y0 fw_X9_23 rfl dX9_read_72 ?_
            refine s_iload_n C dX9_read_75 rfl ?_
            refine s_aald (kd := 0) C y27 ⟨_, rfl⟩ (by omega) dX9_read_76 ?_
            rw [show c.toNatClampNeg = 0 by unfold Int32.toNatClampNeg; omega]
            refine s_callVV (st := []) C (c_X1_handTo_0 l ad τ39  hXτ39 ) cv_X9_252 y68 rfl rfl rfl ⟨by decide, by decide⟩ (Nat.le_of_ble_eq_true rfl) dX9_read_77 ?_
            intro τ44 h45
            have hXτ44 := h45.1
            have hRτ44 := h45.2.2
            have tpτ44 := hXτ44.tp
            refine s_aload_n C dX9_read_80 rfl ?_
            refine s_getr (k := 4) (j := 29) C y0 fw_X9_32 rfl dX9_read_81 ?_
            refine s_iload_n C dX9_read_84 rfl ?_
            refine s_aald (kd := 1) C y29 ⟨_, rfl⟩ (by omega) dX9_read_85 ?_
            rw [show c.toNatClampNeg = 0 by unfold Int32.toNatClampNeg; omega]
            refine s_iconst C dX9_read_86 (by decide) (fun z46 tz46 => ?_)
            refine s_putz (k := 3) C y37 fw_X9_256 fp_6_3 rfl (by omega) dX9_read_87 ?_
            refine s_iload_n C dX9_read_90 rfl ?_
            exact s_iret C X dX9_read_91 ⟨hXτ44, (Fr.sV (Fr.tr (Fr.tr (Fr.tr (Fr.tr Fr.rf (Fr.mo h7.2.1 (by decide) (by decide))) (Fr.mo h11.2.1 (by decide) (by decide))) (Fr.mo h40.2.1 (by decide) (by decide))) (Fr.mo h45.2.1 (by decide) (by decide))) (Or.inr (by decide))), Or.inl ⟨by omega, (congrArg Int32.toInt ((h45.2.1).f 66 0 (by decide) (by decide))).trans hRτ39.1⟩⟩
          · have hnhc42 : c.toNatClampNeg = 1 := by unfold Int32.toNatClampNeg; omega
            refine s_aload_n C dX9_read_67 rfl ?_
            refine s_getr (k := 8) (j := 68) C y0 fw_X9_67 rfl dX9_read_68 ?_
            refine s_aload_n C dX9_read_71 rfl ?_
            refine s_getr (k := 2) (j := 27) C y0 fw_X9_23 rfl dX9_read_72 ?_
            refine s_iload_n C dX9_read_75 rfl ?_
            refine s_aald (kd := 0) C y27 ⟨_, rfl⟩ (by omega) dX9_read_76 ?_
            rw [show c.toNatClampNeg = 1 by unfold Int32.toNatClampNeg; omega]
            refine s_callVV (st := []) C (c_X1_handTo_1 l ad τ39  hXτ39 ) cv_X9_252 y68 rfl rfl rfl ⟨by decide, by decide⟩ (Nat.le_of_ble_eq_true rfl) dX9_read_77 ?_
            intro τ48 h49
            have hXτ48 := h49.1
            have hRτ48 := h49.2.2
            have tpτ48 := hXτ48.tp
            refine s_aload_n C dX9_read_80 rfl ?_
            refine s_getr (k := 4) (j := 29) C y0 fw_X9_32 rfl dX9_read_81 ?_
            refine s_iload_n C dX9_read_84 rfl ?_
            refine s_aald (kd := 1) C y29 ⟨_, rfl⟩ (by omega) dX9_read_85 ?_
            rw [show c.toNatClampNeg = 1 by unfold Int32.toNatClampNeg; omega]
            refine s_iconst C dX9_read_86 (by decide) (fun z50 tz50 => ?_)
            refine s_putz (k := 3) C y38 fw_X9_256 fp_6_3 rfl (by omega) dX9_read_87 ?_
            refine s_iload_n C dX9_read_90 rfl ?_
            exact s_iret C X dX9_read_91 ⟨hXτ48, (Fr.sV (Fr.tr (Fr.tr (Fr.tr (Fr.tr Fr.rf (Fr.mo h7.2.1 (by decide) (by decide))) (Fr.mo h11.2.1 (by decide) (by decide))) (Fr.mo h40.2.1 (by decide) (by decide))) (Fr.mo h49.2.1 (by decide) (by decide))) (Or.inr (by decide))), Or.inl ⟨by omega, (congrArg Int32.toInt ((h49.2.1).f 66 0 (by decide) (by decide))).trans hRτ39.1⟩⟩
          · have hnhc42 : c.toNatClampNeg = 2 := by unfold Int32.toNatClampNeg; omega
            refine s_aload_n C dX9_read_67 rfl ?_
            refine s_getr (k := 8) (j := 68) C y0 fw_X9_67 rfl dX9_read_68 ?_
            refine s_aload_n C dX9_read_71 rfl ?_
            refine s_getr (k := 2) (j := 27) C y0 fw_X9_23 rfl dX9_read_72 ?_
            refine s_iload_n C dX9_read_75 rfl ?_
            refine s_aald (kd := 0) C y27 ⟨_, rfl⟩ (by omega) dX9_read_76 ?_
            rw [show c.toNatClampNeg = 2 by unfold Int32.toNatClampNeg; omega]
            refine s_callVV (st := []) C (c_X1_handTo_2 l ad τ39  hXτ39 ) cv_X9_252 y68 rfl rfl rfl ⟨by decide, by decide⟩ (Nat.le_of_ble_eq_true rfl) dX9_read_77 ?_
            intro τ52 h53
            have hXτ52 := h53.1
            have hRτ52 := h53.2.2
            have tpτ52 := hXτ52.tp
            refine s_aload_n C dX9_read_80 rfl ?_
            refine s_getr (k := 4) (j := 29) C y0 fw_X9_32 rfl dX9_read_81 ?_
            refine s_iload_n C dX9_read_84 rfl ?_
            refine s_aald (kd := 1) C y29 ⟨_, rfl⟩ (by omega) dX9_read_85 ?_
            rw [show c.toNatClampNeg = 2 by unfold Int32.toNatClampNeg; omega]
            refine s_iconst C dX9_read_86 (by decide) (fun z54 tz54 => ?_)
            refine s_putz (k := 3) C y39 fw_X9_256 fp_6_3 rfl (by omega) dX9_read_87 ?_
            refine s_iload_n C dX9_read_90 rfl ?_
            exact s_iret C X dX9_read_91 ⟨hXτ52, (Fr.sV (Fr.tr (Fr.tr (Fr.tr (Fr.tr Fr.rf (Fr.mo h7.2.1 (by decide) (by decide))) (Fr.mo h11.2.1 (by decide) (by decide))) (Fr.mo h40.2.1 (by decide) (by decide))) (Fr.mo h53.2.1 (by decide) (by decide))) (Or.inr (by decide))), Or.inl ⟨by omega, (congrArg Int32.toInt ((h53.2.1).f 66 0 (by decide) (by decide))).trans hRτ39.1⟩⟩
        · refine s_bipush C dX9_read_62 (by decide) (fun z55 tz55 => ?_)
          refine s_iload_n C dX9_read_64 rfl ?_
          refine s_isub C dX9_read_65 (by omega) (fun z56 tz56 => ?_)
          exact s_iret C X dX9_read_66 ⟨hXτ39, (Fr.tr (Fr.tr (Fr.tr Fr.rf (Fr.mo h7.2.1 (by decide) (by decide))) (Fr.mo h11.2.1 (by decide) (by decide))) (Fr.mo h40.2.1 (by decide) (by decide))), Or.inl ⟨by omega, hRτ39.1⟩⟩
      · refine s_iconst C dX9_read_37 (by decide) (fun z57 tz57 => ?_)
        refine s_goto (tgt := 42) C dX9_read_38 (by decide) ?_
        refine s_istore_n C dX9_read_42 (by decide) (Nat.le_of_ble_eq_true rfl) rfl ?_
        show WP E ad 43 [some (.ref (ad 0)), some (.int c), some (.int z57), none] [] τ10
        refine s_aload_n C dX9_read_43 rfl ?_
        refine s_getr (k := 7) (j := 66) C y0 fw_X9_45 rfl dX9_read_44 ?_
        refine s_get (k := 1) (x := (τ10.1 66 1)) C y66 fw_X9_246 rfl rfl dX9_read_47 ?_
        refine s_istore_n C dX9_read_50 (by decide) (Nat.le_of_ble_eq_true rfl) rfl ?_
        show WP E ad 51 [some (.ref (ad 0)), some (.int c), some (.int z57), some (.int (τ10.1 66 1))] [] τ10
        refine s_aload_n C dX9_read_51 rfl ?_
        refine s_getr (k := 7) (j := 66) C y0 fw_X9_45 rfl dX9_read_52 ?_
        refine s_callVV (st := []) C (c_X8_clear l ad τ10  hXτ10 ) cv_X9_249 y66 rfl rfl rfl ⟨by decide, by decide⟩ (Nat.le_of_ble_eq_true rfl) dX9_read_55 ?_
        intro τ59 h60
        have hXτ59 := h60.1
        have hRτ59 := h60.2.2
        have tpτ59 := hXτ59.tp
        refine s_iload_n C dX9_read_58 rfl ?_
        refine s_if_ne (tgt := 67) C dX9_read_59 (by decide) (fun q61 => ?_) (fun q61 => ?_)
        · obtain hc62 | hc62 | hc62 : c.toInt = 0 ∨ c.toInt = 1 ∨ c.toInt = 2 := by omega
          · have hnhc62 : c.toNatClampNeg = 0 := by unfold Int32.toNatClampNeg; omega
            refine s_aload_n C dX9_read_67 rfl ?_
            refine s_getr (k := 8) (j := 68) C y0 fw_X9_67 rfl dX9_read_68 ?_
            refine s_aload_n C dX9_read_71 rfl ?_
            refine s_getr (k := 2) (j := 27) C y0 fw_X9_23 rfl dX9_read_72 ?_
            refine s_iload_n C dX9_read_75 rfl ?_
            refine s_aald (kd := 0) C y27 ⟨_, rfl⟩ (by omega) dX9_read_76 ?_
            rw [show c.toNatClampNeg = 0 by unfold Int32.toNatClampNeg; omega]
            refine s_callVV (st := []) C (c_X1_handTo_0 l ad τ59  hXτ59 ) cv_X9_252 y68 rfl rfl rfl ⟨by decide, by decide⟩ (Nat.le_of_ble_eq_true rfl) dX9_read_77 ?_
            intro τ64 h65
            have hXτ64 := h65.1
            have hRτ64 := h65.2.2
            have tpτ64 := hXτ64.tp
            refine s_aload_n C dX9_read_80 rfl ?_
            refine s_getr (k := 4) (j := 29) C y0 fw_X9_32 rfl dX9_read_81 ?_
            refine s_iload_n C dX9_read_84 rfl ?_
            refine s_aald (kd := 1) C y29 ⟨_, rfl⟩ (by omega) dX9_read_85 ?_
            rw [show c.toNatClampNeg = 0 by unfold Int32.toNatClampNeg; omega]
            refine s_iconst C dX9_read_86 (by decide) (fun z66 tz66 => ?_)
            refine s_putz (k := 3) C y37 fw_X9_256 fp_6_3 rfl (by omega) dX9_read_87 ?_
            refine s_iload_n C dX9_read_90 rfl ?_
            exact s_iret C X dX9_read_91 ⟨hXτ64, (Fr.sV (Fr.tr (Fr.tr (Fr.tr (Fr.tr Fr.rf (Fr.mo h7.2.1 (by decide) (by decide))) (Fr.mo h11.2.1 (by decide) (by decide))) (Fr.mo h60.2.1 (by decide) (by decide))) (Fr.mo h65.2.1 (by decide) (by decide))) (Or.inr (by decide))), Or.inl ⟨by omega, (congrArg Int32.toInt ((h65.2.1).f 66 0 (by decide) (by decide))).trans hRτ59.1⟩⟩
          · have hnhc62 : c.toNatClampNeg = 1 := by unfold Int32.toNatClampNeg; omega
            refine s_aload_n C dX9_read_67 rfl ?_
            refine s_getr (k := 8) (j := 68) C y0 fw_X9_67 rfl dX9_read_68 ?_
            refine s_aload_n C dX9_read_71 rfl ?_
            refine s_getr (k := 2) (j := 27) C y0 fw_X9_23 rfl dX9_read_72 ?_
            refine s_iload_n C dX9_read_75 rfl ?_
            refine s_aald (kd := 0) C y27 ⟨_, rfl⟩ (by omega) dX9_read_76 ?_
            rw [show c.toNatClampNeg = 1 by unfold Int32.toNatClampNeg; omega]
            refine s_callVV (st := []) C (c_X1_handTo_1 l ad τ59  hXτ59 ) cv_X9_252 y68 rfl rfl rfl ⟨by decide, by decide⟩ (Nat.le_of_ble_eq_true rfl) dX9_read_77 ?_
            intro τ68 h69
            have hXτ68 := h69.1
            have hRτ68 := h69.2.2
            have tpτ68 := hXτ68.tp
            refine s_aload_n C dX9_read_80 rfl ?_
            refine s_getr (k := 4) (j := 29) C y0 fw_X9_32 rfl dX9_read_81 ?_
            refine s_iload_n C dX9_read_84 rfl ?_
            refine s_aald (kd := 1) C y29 ⟨_, rfl⟩ (by omega) dX9_read_85 ?_
            rw [show c.toNatClampNeg = 1 by unfold Int32.toNatClampNeg; omega]
            refine s_iconst C dX9_read_86 (by decide) (fun z70 tz70 => ?_)
            refine s_putz (k := 3) C y38 fw_X9_256 fp_6_3 rfl (by omega) dX9_read_87 ?_
            refine s_iload_n C dX9_read_90 rfl ?_
            exact s_iret C X dX9_read_91 ⟨hXτ68, (Fr.sV (Fr.tr (Fr.tr (Fr.tr (Fr.tr Fr.rf (Fr.mo h7.2.1 (by decide) (by decide))) (Fr.mo h11.2.1 (by decide) (by decide))) (Fr.mo h60.2.1 (by decide) (by decide))) (Fr.mo h69.2.1 (by decide) (by decide))) (Or.inr (by decide))), Or.inl ⟨by omega, (congrArg Int32.toInt ((h69.2.1).f 66 0 (by decide) (by decide))).trans hRτ59.1⟩⟩
          · have hnhc62 : c.toNatClampNeg = 2 := by unfold Int32.toNatClampNeg; omega
            refine s_aload_n C dX9_read_67 rfl ?_
            refine s_getr (k := 8) (j := 68) C y0 fw_X9_67 rfl dX9_read_68 ?_
            refine s_aload_n C dX9_read_71 rfl ?_
            refine s_getr (k := 2) (j := 27) C y0 fw_X9_23 rfl dX9_read_72 ?_
            refine s_iload_n C dX9_read_75 rfl ?_
            refine s_aald (kd := 0) C y27 ⟨_, rfl⟩ (by omega) dX9_read_76 ?_
            rw [show c.toNatClampNeg = 2 by unfold Int32.toNatClampNeg; omega]
            refine s_callVV (st := []) C (c_X1_handTo_2 l ad τ59  hXτ59 ) cv_X9_252 y68 rfl rfl rfl ⟨by decide, by decide⟩ (Nat.le_of_ble_eq_true rfl) dX9_read_77 ?_
            intro τ72 h73
            have hXτ72 := h73.1
            have hRτ72 := h73.2.2
            have tpτ72 := hXτ72.tp
            refine s_aload_n C dX9_read_80 rfl ?_
            refine s_getr (k := 4) (j := 29) C y0 fw_X9_32 rfl dX9_read_81 ?_
            refine s_iload_n C dX9_read_84 rfl ?_
            refine s_aald (kd := 1) C y29 ⟨_, rfl⟩ (by omega) dX9_read_85 ?_
            rw [show c.toNatClampNeg = 2 by unfold Int32.toNatClampNeg; omega]
            refine s_iconst C dX9_read_86 (by decide) (fun z74 tz74 => ?_)
            refine s_putz (k := 3) C y39 fw_X9_256 fp_6_3 rfl (by omega) dX9_read_87 ?_
            refine s_iload_n C dX9_read_90 rfl ?_
            exact s_iret C X dX9_read_91 ⟨hXτ72, (Fr.sV (Fr.tr (Fr.tr (Fr.tr (Fr.tr Fr.rf (Fr.mo h7.2.1 (by decide) (by decide))) (Fr.mo h11.2.1 (by decide) (by decide))) (Fr.mo h60.2.1 (by decide) (by decide))) (Fr.mo h73.2.1 (by decide) (by decide))) (Or.inr (by decide))), Or.inl ⟨by omega, (congrArg Int32.toInt ((h73.2.1).f 66 0 (by decide) (by decide))).trans hRτ59.1⟩⟩
        · refine s_bipush C dX9_read_62 (by decide) (fun z75 tz75 => ?_)
          refine s_iload_n C dX9_read_64 rfl ?_
          refine s_isub C dX9_read_65 (by omega) (fun z76 tz76 => ?_)
          exact s_iret C X dX9_read_66 ⟨hXτ59, (Fr.tr (Fr.tr (Fr.tr Fr.rf (Fr.mo h7.2.1 (by decide) (by decide))) (Fr.mo h11.2.1 (by decide) (by decide))) (Fr.mo h60.2.1 (by decide) (by decide))), Or.inl ⟨by omega, hRτ59.1⟩⟩
  · refine s_iconst C dX9_read_7 (by decide) (fun z77 tz77 => ?_)
    exact s_iret C X dX9_read_8 ⟨hX, Fr.rf, Or.inr ⟨by omega, by omega, rfl⟩⟩
