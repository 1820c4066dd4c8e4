set_option maxRecDepth 100000 in
theorem c_X1_begin (l : Launch) (ad : Nat → Nat) (σ : Sg)  (hX : IX σ.1)  : Mt l yX1_begin cX1_begin 1 none 0 ad σ [.ref (ad 68)] (oV (fun τ => IX τ.1 ∧ Fr [] [(66, 1), (68, 2)] σ τ ∧ True)) := by
  refine Mt_intro (by decide +kernel) (by simp [lg_sl, Value.category]) (fun E C X => ?_)
  show WP E ad 0 [some (.ref (ad 68))] [] σ
  refine s_aload_n C dX1_begin_0 rfl ?_
  refine s_getr (k := 0) (j := 66) C y68 fw_X1_19 rfl dX1_begin_1 ?_
  refine s_iconst C dX1_begin_4 (by decide) (fun z1 tz1 => ?_)
  refine s_put (k := 1) C y66 fw_X1_27 fp_7_1 rfl dX1_begin_5 ?_
  refine s_aload_n C dX1_begin_8 rfl ?_
  refine s_iconst C dX1_begin_9 (by decide) (fun z2 tz2 => ?_)
  refine s_put (k := 2) C y68 fw_X1_9 fp_1_2 rfl dX1_begin_10 ?_
  exact s_vret C X dX1_begin_13 ⟨⟨hX.1, hX.2.1, hX.2.2.1, hX.2.2.2.1, hX.2.2.2.2.1, hX.2.2.2.2.2.1, hX.2.2.2.2.2.2.1, hX.2.2.2.2.2.2.2.1, hX.2.2.2.2.2.2.2.2.1, hX.2.2.2.2.2.2.2.2.2.1, hX.2.2.2.2.2.2.2.2.2.2.1, hX.2.2.2.2.2.2.2.2.2.2.2.1, ⟨hX.tl, (by show 0 ≤ Int32.toInt z1 ∧ Int32.toInt z1 ≤ 60; omega)⟩, ⟨(by show 0 ≤ Int32.toInt z2 ∧ Int32.toInt z2 ≤ 60; omega), hX.CR.2⟩⟩, (Fr.sV (Fr.sV Fr.rf (Or.inr (by decide))) (Or.inr (by decide))), trivial⟩
set_option maxRecDepth 100000 in
theorem c_X1_handTo_0 (l : Launch) (ad : Nat → Nat) (σ : Sg) (hX : IX σ.1) : Mt l yX1_handTo cX1_handTo 2 none 1 ad σ [.ref (ad 68), .ref (ad 31)] (oV (fun τ => IX τ.1 ∧ Fr [43] [(31, 0), (31, 1)] σ τ ∧ (τ.1 31 0).toInt = 1)) := by
  refine Mt_intro (by decide +kernel) (by simp [lg_sl, Value.category]) (fun E C X => ?_)
  show WP E ad 0 [some (.ref (ad 68)), some (.ref (ad 31))] [] σ
  refine s_aload_n C dX1_handTo_0 rfl ?_
  refine s_iconst C dX1_handTo_1 (by decide) (fun z1 tz1 => ?_)
  refine s_putz (k := 0) C y31 fw_X1_32 fp_0_0 rfl (by omega) dX1_handTo_2 ?_
  refine s_aload_n C dX1_handTo_5 rfl ?_
  refine s_aload_n C dX1_handTo_6 rfl ?_
  refine s_get (k := 2) (x := (σ.1 68 2)) C y68 fw_X1_9 rfl rfl dX1_handTo_7 ?_
  refine s_put (k := 1) C y31 fw_X1_38 fp_0_1 rfl dX1_handTo_10 ?_
  refine s_aload_n C dX1_handTo_13 rfl ?_
  refine s_getr (k := 3) (j := 69) C y68 fw_X1_15 rfl dX1_handTo_14 ?_
  refine s_iconst C dX1_handTo_17 (by decide) (fun z2 tz2 => ?_)
  refine s_aload_n C dX1_handTo_18 rfl ?_
  refine s_getr (k := 2) (j := 43) C y31 fw_X1_39 rfl dX1_handTo_19 ?_
  refine s_iconst C dX1_handTo_22 (by decide) (fun z3 tz3 => ?_)
  refine s_bipush C dX1_handTo_23 (by decide) (fun z4 tz4 => ?_)
  refine s_copy (idx := 40) C y69 y43 (by omega) (by omega) (by omega) (mw 683 (by decide +kernel) rfl) (mw 685 (by decide +kernel) rfl) (mw 684 (by decide +kernel) rfl) (mw 74 (by decide +kernel) rfl) (by decide) (Nat.le_of_ble_eq_true rfl) dX1_handTo_25 ?_
  show WP E ad 28 [some (.ref (ad 68)), some (.ref (ad 31))] [] (sR (sV (sV σ 31 0 z1) 31 1 (σ.1 68 2)) 43 (σ.1 69))
  exact s_vret C X dX1_handTo_28 ⟨⟨hX.1, hX.2.1, ⟨Or.inr (by show Int32.toInt z1 = 1; omega), hX.cs, hX.CR.2⟩, hX.2.2.2.1, hX.2.2.2.2.1, hX.2.2.2.2.2.1, hX.2.2.2.2.2.2.1, hX.2.2.2.2.2.2.2.1, hX.2.2.2.2.2.2.2.2.1, hX.2.2.2.2.2.2.2.2.2.1, hX.2.2.2.2.2.2.2.2.2.2.1, hX.2.2.2.2.2.2.2.2.2.2.2.1, hX.2.2.2.2.2.2.2.2.2.2.2.2.1, hX.2.2.2.2.2.2.2.2.2.2.2.2.2⟩, (Fr.sR (Fr.sV (Fr.sV Fr.rf (Or.inr (by decide))) (Or.inr (by decide))) (by decide)), (by show Int32.toInt z1 = 1; omega)⟩
set_option maxRecDepth 100000 in
theorem c_X1_handTo_1 (l : Launch) (ad : Nat → Nat) (σ : Sg) (hX : IX σ.1) : Mt l yX1_handTo cX1_handTo 2 none 1 ad σ [.ref (ad 68), .ref (ad 32)] (oV (fun τ => IX τ.1 ∧ Fr [44] [(32, 0), (32, 1)] σ τ ∧ (τ.1 32 0).toInt = 1)) := by
  refine Mt_intro (by decide +kernel) (by simp [lg_sl, Value.category]) (fun E C X => ?_)
  show WP E ad 0 [some (.ref (ad 68)), some (.ref (ad 32))] [] σ
  refine s_aload_n C dX1_handTo_0 rfl ?_
  refine s_iconst C dX1_handTo_1 (by decide) (fun z1 tz1 => ?_)
  refine s_putz (k := 0) C y32 fw_X1_32 fp_0_0 rfl (by omega) dX1_handTo_2 ?_
  refine s_aload_n C dX1_handTo_5 rfl ?_
  refine s_aload_n C dX1_handTo_6 rfl ?_
  refine s_get (k := 2) (x := (σ.1 68 2)) C y68 fw_X1_9 rfl rfl dX1_handTo_7 ?_
  refine s_put (k := 1) C y32 fw_X1_38 fp_0_1 rfl dX1_handTo_10 ?_
  refine s_aload_n C dX1_handTo_13 rfl ?_
  refine s_getr (k := 3) (j := 69) C y68 fw_X1_15 rfl dX1_handTo_14 ?_
  refine s_iconst C dX1_handTo_17 (by decide) (fun z2 tz2 => ?_)
  refine s_aload_n C dX1_handTo_18 rfl ?_
  refine s_getr (k := 2) (j := 44) C y32 fw_X1_39 rfl dX1_handTo_19 ?_
  refine s_iconst C dX1_handTo_22 (by decide) (fun z3 tz3 => ?_)
  refine s_bipush C dX1_handTo_23 (by decide) (fun z4 tz4 => ?_)
  refine s_copy (idx := 40) C y69 y44 (by omega) (by omega) (by omega) (mw 683 (by decide +kernel) rfl) (mw 685 (by decide +kernel) rfl) (mw 684 (by decide +kernel) rfl) (mw 74 (by decide +kernel) rfl) (by decide) (Nat.le_of_ble_eq_true rfl) dX1_handTo_25 ?_
  show WP E ad 28 [some (.ref (ad 68)), some (.ref (ad 32))] [] (sR (sV (sV σ 32 0 z1) 32 1 (σ.1 68 2)) 44 (σ.1 69))
  exact s_vret C X dX1_handTo_28 ⟨⟨hX.1, hX.2.1, hX.2.2.1, ⟨Or.inr (by show Int32.toInt z1 = 1; omega), hX.cs, hX.CR.2⟩, hX.2.2.2.2.1, hX.2.2.2.2.2.1, hX.2.2.2.2.2.2.1, hX.2.2.2.2.2.2.2.1, hX.2.2.2.2.2.2.2.2.1, hX.2.2.2.2.2.2.2.2.2.1, hX.2.2.2.2.2.2.2.2.2.2.1, hX.2.2.2.2.2.2.2.2.2.2.2.1, hX.2.2.2.2.2.2.2.2.2.2.2.2.1, hX.2.2.2.2.2.2.2.2.2.2.2.2.2⟩, (Fr.sR (Fr.sV (Fr.sV Fr.rf (Or.inr (by decide))) (Or.inr (by decide))) (by decide)), (by show Int32.toInt z1 = 1; omega)⟩
set_option maxRecDepth 100000 in
theorem c_X1_handTo_2 (l : Launch) (ad : Nat → Nat) (σ : Sg) (hX : IX σ.1) : Mt l yX1_handTo cX1_handTo 2 none 1 ad σ [.ref (ad 68), .ref (ad 33)] (oV (fun τ => IX τ.1 ∧ Fr [45] [(33, 0), (33, 1)] σ τ ∧ (τ.1 33 0).toInt = 1)) := by
  refine Mt_intro (by decide +kernel) (by simp [lg_sl, Value.category]) (fun E C X => ?_)
  show WP E ad 0 [some (.ref (ad 68)), some (.ref (ad 33))] [] σ
  refine s_aload_n C dX1_handTo_0 rfl ?_
  refine s_iconst C dX1_handTo_1 (by decide) (fun z1 tz1 => ?_)
  refine s_putz (k := 0) C y33 fw_X1_32 fp_0_0 rfl (by omega) dX1_handTo_2 ?_
  refine s_aload_n C dX1_handTo_5 rfl ?_
  refine s_aload_n C dX1_handTo_6 rfl ?_
  refine s_get (k := 2) (x := (σ.1 68 2)) C y68 fw_X1_9 rfl rfl dX1_handTo_7 ?_
  refine s_put (k := 1) C y33 fw_X1_38 fp_0_1 rfl dX1_handTo_10 ?_
  refine s_aload_n C dX1_handTo_13 rfl ?_
  refine s_getr (k := 3) (j := 69) C y68 fw_X1_15 rfl dX1_handTo_14 ?_
  refine s_iconst C dX1_handTo_17 (by decide) (fun z2 tz2 => ?_)
  refine s_aload_n C dX1_handTo_18 rfl ?_
  refine s_getr (k := 2) (j := 45) C y33 fw_X1_39 rfl dX1_handTo_19 ?_
  refine s_iconst C dX1_handTo_22 (by decide) (fun z3 tz3 => ?_)
  refine s_bipush C dX1_handTo_23 (by decide) (fun z4 tz4 => ?_)
  refine s_copy (idx := 40) C y69 y45 (by omega) (by omega) (by omega) (mw 683 (by decide +kernel) rfl) (mw 685 (by decide +kernel) rfl) (mw 684 (by decide +kernel) rfl) (mw 74 (by decide +kernel) rfl) (by decide) (Nat.le_of_ble_eq_true rfl) dX1_handTo_25 ?_
  show WP E ad 28 [some (.ref (ad 68)), some (.ref (ad 33))] [] (sR (sV (sV σ 33 0 z1) 33 1 (σ.1 68 2)) 45 (σ.1 69))
  exact s_vret C X dX1_handTo_28 ⟨⟨hX.1, hX.2.1, hX.2.2.1, hX.2.2.2.1, ⟨Or.inr (by show Int32.toInt z1 = 1; omega), hX.cs, hX.CR.2⟩, hX.2.2.2.2.2.1, hX.2.2.2.2.2.2.1, hX.2.2.2.2.2.2.2.1, hX.2.2.2.2.2.2.2.2.1, hX.2.2.2.2.2.2.2.2.2.1, hX.2.2.2.2.2.2.2.2.2.2.1, hX.2.2.2.2.2.2.2.2.2.2.2.1, hX.2.2.2.2.2.2.2.2.2.2.2.2.1, hX.2.2.2.2.2.2.2.2.2.2.2.2.2⟩, (Fr.sR (Fr.sV (Fr.sV Fr.rf (Or.inr (by decide))) (Or.inr (by decide))) (by decide)), (by show Int32.toInt z1 = 1; omega)⟩
set_option maxRecDepth 100000 in
theorem c_X1_add (l : Launch) (ad : Nat → Nat) (σ : Sg) (c : Int32) (hX : IX σ.1) (hv : PV c) : Mt l yX1_add cX1_add 2 none 0 ad σ [.ref (ad 68), .int c] (oV (fun τ => IX τ.1 ∧ Fr [69] [(68, 2)] σ τ ∧ True)) := by
  have hcs := hX.cs
  have hpr := hX.pr
  refine Mt_intro (by decide +kernel) (by simp [lg_sl, Value.category]) (fun E C X => ?_)
  show WP E ad 0 [some (.ref (ad 68)), some (.int c)] [] σ
  refine s_aload_n C dX1_add_0 rfl ?_
  refine s_get (k := 2) (x := (σ.1 68 2)) C y68 fw_X1_9 rfl rfl dX1_add_1 ?_
  refine s_bipush C dX1_add_4 (by decide) (fun z1 tz1 => ?_)
  refine s_icmp_ge (tgt := 29) C dX1_add_6 (by decide) (fun q2 => ?_) (fun q2 => ?_)
  · exact s_vret C X dX1_add_29 ⟨hX, Fr.rf, trivial⟩
  · refine s_aload_n C dX1_add_9 rfl ?_
    refine s_getr (k := 3) (j := 69) C y68 fw_X1_15 rfl dX1_add_10 ?_
    refine s_aload_n C dX1_add_13 rfl ?_
    refine s_get (k := 2) (x := (σ.1 68 2)) C y68 fw_X1_9 rfl rfl dX1_add_14 ?_
    refine s_iload_n C dX1_add_17 rfl ?_
    refine s_iast C y69 (by omega) dX1_add_18 ?_
    refine s_aload_n C dX1_add_19 rfl ?_
    refine s_dup C dX1_add_20 rfl ?_
    refine s_get (k := 2) (x := (σ.1 68 2)) C y68 fw_X1_9 rfl rfl dX1_add_21 ?_
    refine s_iconst C dX1_add_24 (by decide) (fun z3 tz3 => ?_)
    refine s_iadd C dX1_add_25 (by omega) (fun z4 tz4 => ?_)
    refine s_put (k := 2) C y68 fw_X1_9 fp_1_2 rfl dX1_add_26 ?_
    exact s_vret C X dX1_add_29 ⟨⟨hX.1, hX.2.1, hX.2.2.1, hX.2.2.2.1, hX.2.2.2.2.1, hX.2.2.2.2.2.1, hX.2.2.2.2.2.2.1, hX.2.2.2.2.2.2.2.1, hX.2.2.2.2.2.2.2.2.1, hX.2.2.2.2.2.2.2.2.2.1, hX.2.2.2.2.2.2.2.2.2.2.1, hX.2.2.2.2.2.2.2.2.2.2.2.1, hX.2.2.2.2.2.2.2.2.2.2.2.2.1, ⟨(by show 0 ≤ Int32.toInt z4 ∧ Int32.toInt z4 ≤ 60; omega), up_all hX.CR.2 _ hv⟩⟩, (Fr.sV (Fr.sV Fr.rf (Or.inl (by decide))) (Or.inr (by decide))), trivial⟩
set_option maxRecDepth 100000 in
theorem c_X1_readUnit (l : Launch) (ad : Nat → Nat) (σ : Sg)  (hX : IX σ.1)  : Mt l yX1_readUnit cX1_readUnit 3 (some .boolean) 1 ad σ [.ref (ad 68)] (oI (fun r τ => IX τ.1 ∧ Fr [69] [(66, 1), (68, 2)] σ τ ∧ (r.toInt = 0 ∨ r.toInt = 1))) := by
  have hcs := hX.cs
  have hpr := hX.pr
  refine Mt_intro (by decide +kernel) (by simp [lg_sl, Value.category]) (fun E C X => ?_)
  show WP E ad 0 [some (.ref (ad 68)), none, none] [] σ
  refine s_aload_n C dX1_readUnit_0 rfl ?_
  refine s_getr (k := 0) (j := 66) C y68 fw_X1_19 rfl dX1_readUnit_1 ?_
  refine s_bipush C dX1_readUnit_4 (by decide) (fun z1 tz1 => ?_)
  refine s_callVI (st := []) C (c_X8_accept l ad σ z1 hX ) cv_X1_50 y66 rfl rfl rfl ⟨by decide, by decide⟩ (Nat.le_of_ble_eq_true rfl) dX1_readUnit_6 ?_
  intro r2 τ3 h4
  have hXτ3 := h4.1
  have hRτ3 := h4.2.2
  have prτ3 := hXτ3.pr
  refine s_if_eq (tgt := 16) C dX1_readUnit_9 (by decide) (fun q5 => ?_) (fun q5 => ?_)
  · refine s_aload_n C dX1_readUnit_16 rfl ?_
    refine s_getr (k := 0) (j := 66) C y68 fw_X1_19 rfl dX1_readUnit_17 ?_
    refine s_bipush C dX1_readUnit_20 (by decide) (fun z6 tz6 => ?_)
    refine s_callVI (st := []) C (c_X8_accept l ad τ3 z6 hXτ3 ) cv_X1_50 y66 rfl rfl rfl ⟨by decide, by decide⟩ (Nat.le_of_ble_eq_true rfl) dX1_readUnit_22 ?_
    intro r7 τ8 h9
    have hXτ8 := h9.1
    have hRτ8 := h9.2.2
    have prτ8 := hXτ8.pr
    refine s_if_eq (tgt := 32) C dX1_readUnit_25 (by decide) (fun q10 => ?_) (fun q10 => ?_)
    · refine s_aload_n C dX1_readUnit_32 rfl ?_
      refine s_getr (k := 0) (j := 66) C y68 fw_X1_19 rfl dX1_readUnit_33 ?_
      refine s_bipush C dX1_readUnit_36 (by decide) (fun z11 tz11 => ?_)
      refine s_callVI (st := []) C (c_X8_accept l ad τ8 z11 hXτ8 ) cv_X1_50 y66 rfl rfl rfl ⟨by decide, by decide⟩ (Nat.le_of_ble_eq_true rfl) dX1_readUnit_38 ?_
      intro r12 τ13 h14
      have hXτ13 := h14.1
      have hRτ13 := h14.2.2
      have prτ13 := hXτ13.pr
      refine s_if_eq (tgt := 48) C dX1_readUnit_41 (by decide) (fun q15 => ?_) (fun q15 => ?_)
      · refine s_iconst C dX1_readUnit_48 (by decide) (fun z16 tz16 => ?_)
        refine s_istore_n C dX1_readUnit_49 (by decide) (Nat.le_of_ble_eq_true rfl) rfl ?_
        show WP E ad 50 [some (.ref (ad 68)), some (.int z16), none] [] τ13
        refine s_iconst C dX1_readUnit_50 (by decide) (fun z17 tz17 => ?_)
        refine s_istore_n C dX1_readUnit_51 (by decide) (Nat.le_of_ble_eq_true rfl) rfl ?_
        show WP E ad 52 [some (.ref (ad 68)), some (.int z16), some (.int z17)] [] τ13
        refine s_iload_n C dX1_readUnit_52 rfl ?_
        refine s_iconst C dX1_readUnit_53 (by decide) (fun z18 tz18 => ?_)
        refine s_icmp_eq (tgt := 62) C dX1_readUnit_54 (by decide) (fun q19 => ?_) (fun q19 => ?_)
        · omega
        · refine s_iload_n C dX1_readUnit_57 rfl ?_
          refine s_iconst C dX1_readUnit_58 (by decide) (fun z20 tz20 => ?_)
          refine s_icmp_ne (tgt := 80) C dX1_readUnit_59 (by decide) (fun q21 => ?_) (fun q21 => ?_)
          · refine s_iload_n C dX1_readUnit_80 rfl ?_
            refine s_if_ne (tgt := 92) C dX1_readUnit_81 (by decide) (fun q22 => ?_) (fun q22 => ?_)
            · omega
            · refine s_aload_n C dX1_readUnit_84 rfl ?_
              refine s_getr (k := 0) (j := 66) C y68 fw_X1_19 rfl dX1_readUnit_85 ?_
              refine s_callVI (st := []) C (c_X8_number l ad τ13  hXτ13 ) cv_X1_86 y66 rfl rfl rfl ⟨by decide, by decide⟩ (Nat.le_of_ble_eq_true rfl) dX1_readUnit_88 ?_
              intro r23 τ24 h25
              have hXτ24 := h25.1
              have hRτ24 := h25.2.2
              have prτ24 := hXτ24.pr
              refine s_istore_n C dX1_readUnit_91 (by decide) (Nat.le_of_ble_eq_true rfl) rfl ?_
              show WP E ad 92 [some (.ref (ad 68)), some (.int z16), some (.int r23)] [] τ24
              refine s_iload_n C dX1_readUnit_92 rfl ?_
              refine s_if_ge (tgt := 98) C dX1_readUnit_93 (by decide) (fun q26 => ?_) (fun q26 => ?_)
              · refine s_aload_n C dX1_readUnit_98 rfl ?_
                refine s_iload_n C dX1_readUnit_99 rfl ?_
                refine s_iconst C dX1_readUnit_100 (by decide) (fun z27 tz27 => ?_)
                skip
                refine s_ishl C dX1_readUnit_101 (fun z28 tz28 => ?_)
                refine s_iload_n C dX1_readUnit_102 rfl ?_
                skip
                refine s_ior C dX1_readUnit_103 (fun z29 tz29 => ?_)
                refine s_callVV (st := []) C (c_X1_add l ad τ24 z29 hXτ24 (by rw [show z29 = pMk r23 z16 by rw [tz29, tz28, ceq (n := 4) tz27]; rfl]; exact pv_mk (by omega) (by omega) (by omega))) cv_X1_53 y68 rfl rfl rfl ⟨by decide, by decide⟩ (Nat.le_of_ble_eq_true rfl) dX1_readUnit_104 ?_
                intro τ31 h32
                have hXτ31 := h32.1
                have hRτ31 := h32.2.2
                have prτ31 := hXτ31.pr
                refine s_iconst C dX1_readUnit_107 (by decide) (fun z33 tz33 => ?_)
                exact s_zret C (by omega) X dX1_readUnit_108 ⟨hXτ31, (Fr.tr (Fr.tr (Fr.tr (Fr.tr (Fr.tr Fr.rf (Fr.mo h4.2.1 (by decide) (by decide))) (Fr.mo h9.2.1 (by decide) (by decide))) (Fr.mo h14.2.1 (by decide) (by decide))) (Fr.mo h25.2.1 (by decide) (by decide))) (Fr.mo h32.2.1 (by decide) (by decide))), by omega⟩
              · refine s_iconst C dX1_readUnit_96 (by decide) (fun z34 tz34 => ?_)
                exact s_zret C (by omega) X dX1_readUnit_97 ⟨hXτ24, (Fr.tr (Fr.tr (Fr.tr (Fr.tr Fr.rf (Fr.mo h4.2.1 (by decide) (by decide))) (Fr.mo h9.2.1 (by decide) (by decide))) (Fr.mo h14.2.1 (by decide) (by decide))) (Fr.mo h25.2.1 (by decide) (by decide))), by omega⟩
          · omega
      · refine s_iconst C dX1_readUnit_44 (by decide) (fun z35 tz35 => ?_)
        refine s_goto (tgt := 49) C dX1_readUnit_45 (by decide) ?_
        refine s_istore_n C dX1_readUnit_49 (by decide) (Nat.le_of_ble_eq_true rfl) rfl ?_
        show WP E ad 50 [some (.ref (ad 68)), some (.int z35), none] [] τ13
        refine s_iconst C dX1_readUnit_50 (by decide) (fun z36 tz36 => ?_)
        refine s_istore_n C dX1_readUnit_51 (by decide) (Nat.le_of_ble_eq_true rfl) rfl ?_
        show WP E ad 52 [some (.ref (ad 68)), some (.int z35), some (.int z36)] [] τ13
        refine s_iload_n C dX1_readUnit_52 rfl ?_
        refine s_iconst C dX1_readUnit_53 (by decide) (fun z37 tz37 => ?_)
        refine s_icmp_eq (tgt := 62) C dX1_readUnit_54 (by decide) (fun q38 => ?_) (fun q38 => ?_)
        · omega
        · refine s_iload_n C dX1_readUnit_57 rfl ?_
          refine s_iconst C dX1_readUnit_58 (by decide) (fun z39 tz39 => ?_)
          refine s_icmp_ne (tgt := 80) C dX1_readUnit_59 (by decide) (fun q40 => ?_) (fun q40 => ?_)
          · refine s_iload_n C dX1_readUnit_80 rfl ?_
            refine s_if_ne (tgt := 92) C dX1_readUnit_81 (by decide) (fun q41 => ?_) (fun q41 => ?_)
            · refine s_iload_n C dX1_readUnit_92 rfl ?_
              refine s_if_ge (tgt := 98) C dX1_readUnit_93 (by decide) (fun q42 => ?_) (fun q42 => ?_)
              · refine s_aload_n C dX1_readUnit_98 rfl ?_
                refine s_iload_n C dX1_readUnit_99 rfl ?_
                refine s_iconst C dX1_readUnit_100 (by decide) (fun z43 tz43 => ?_)
                skip
                refine s_ishl C dX1_readUnit_101 (fun z44 tz44 => ?_)
                refine s_iload_n C dX1_readUnit_102 rfl ?_
                skip
                refine s_ior C dX1_readUnit_103 (fun z45 tz45 => ?_)
                refine s_callVV (st := []) C (c_X1_add l ad τ13 z45 hXτ13 (by rw [show z45 = pMk z36 z35 by rw [tz45, tz44, ceq (n := 4) tz43]; rfl]; exact pv_mk (by omega) (by omega) (by omega))) cv_X1_53 y68 rfl rfl rfl ⟨by decide, by decide⟩ (Nat.le_of_ble_eq_true rfl) dX1_readUnit_104 ?_
                intro τ47 h48
                have hXτ47 := h48.1
                have hRτ47 := h48.2.2
                have prτ47 := hXτ47.pr
                refine s_iconst C dX1_readUnit_107 (by decide) (fun z49 tz49 => ?_)
                exact s_zret C (by omega) X dX1_readUnit_108 ⟨hXτ47, (Fr.tr (Fr.tr (Fr.tr (Fr.tr Fr.rf (Fr.mo h4.2.1 (by decide) (by decide))) (Fr.mo h9.2.1 (by decide) (by decide))) (Fr.mo h14.2.1 (by decide) (by decide))) (Fr.mo h48.2.1 (by decide) (by decide))), by omega⟩
              · omega
            · omega
          · omega
    · refine s_iconst C dX1_readUnit_28 (by decide) (fun z50 tz50 => ?_)
      refine s_goto (tgt := 49) C dX1_readUnit_29 (by decide) ?_
      refine s_istore_n C dX1_readUnit_49 (by decide) (Nat.le_of_ble_eq_true rfl) rfl ?_
      show WP E ad 50 [some (.ref (ad 68)), some (.int z50), none] [] τ8
      refine s_iconst C dX1_readUnit_50 (by decide) (fun z51 tz51 => ?_)
      refine s_istore_n C dX1_readUnit_51 (by decide) (Nat.le_of_ble_eq_true rfl) rfl ?_
      show WP E ad 52 [some (.ref (ad 68)), some (.int z50), some (.int z51)] [] τ8
      refine s_iload_n C dX1_readUnit_52 rfl ?_
      refine s_iconst C dX1_readUnit_53 (by decide) (fun z52 tz52 => ?_)
      refine s_icmp_eq (tgt := 62) C dX1_readUnit_54 (by decide) (fun q53 => ?_) (fun q53 => ?_)
      · omega
      · refine s_iload_n C dX1_readUnit_57 rfl ?_
        refine s_iconst C dX1_readUnit_58 (by decide) (fun z54 tz54 => ?_)
        refine s_icmp_ne (tgt := 80) C dX1_readUnit_59 (by decide) (fun q55 => ?_) (fun q55 => ?_)
        · omega
        · refine s_aload_n C dX1_readUnit_62 rfl ?_
          refine s_getr (k := 0) (j := 66) C y68 fw_X1_19 rfl dX1_readUnit_63 ?_
          refine s_aload_n C dX1_readUnit_66 rfl ?_
          refine s_getr (k := 1) (j := 1) C y68 fw_X1_23 rfl dX1_readUnit_67 ?_
          refine s_get (k := 0) (x := (τ8.1 1 0)) C y1 fw_X1_77 rfl rfl dX1_readUnit_70 ?_
          refine s_callVI (st := []) C (c_X8_figureBelow l ad τ8 ((τ8.1 1 0)) hXτ8 ) cv_X1_82 y66 rfl rfl rfl ⟨by decide, by decide⟩ (Nat.le_of_ble_eq_true rfl) dX1_readUnit_73 ?_
          intro r56 τ57 h58
          have hXτ57 := h58.1
          have hRτ57 := h58.2.2
          have prτ57 := hXτ57.pr
          refine s_istore_n C dX1_readUnit_76 (by decide) (Nat.le_of_ble_eq_true rfl) rfl ?_
          show WP E ad 77 [some (.ref (ad 68)), some (.int z50), some (.int r56)] [] τ57
          refine s_goto (tgt := 92) C dX1_readUnit_77 (by decide) ?_
          refine s_iload_n C dX1_readUnit_92 rfl ?_
          refine s_if_ge (tgt := 98) C dX1_readUnit_93 (by decide) (fun q59 => ?_) (fun q59 => ?_)
          · refine s_aload_n C dX1_readUnit_98 rfl ?_
            refine s_iload_n C dX1_readUnit_99 rfl ?_
            refine s_iconst C dX1_readUnit_100 (by decide) (fun z60 tz60 => ?_)
            skip
            refine s_ishl C dX1_readUnit_101 (fun z61 tz61 => ?_)
            refine s_iload_n C dX1_readUnit_102 rfl ?_
            skip
            refine s_ior C dX1_readUnit_103 (fun z62 tz62 => ?_)
            refine s_callVV (st := []) C (c_X1_add l ad τ57 z62 hXτ57 (by rw [show z62 = pMk r56 z50 by rw [tz62, tz61, ceq (n := 4) tz60]; rfl]; exact pv_mk (by omega) (by omega) (by omega))) cv_X1_53 y68 rfl rfl rfl ⟨by decide, by decide⟩ (Nat.le_of_ble_eq_true rfl) dX1_readUnit_104 ?_
            intro τ64 h65
            have hXτ64 := h65.1
            have hRτ64 := h65.2.2
            have prτ64 := hXτ64.pr
            refine s_iconst C dX1_readUnit_107 (by decide) (fun z66 tz66 => ?_)
            exact s_zret C (by omega) X dX1_readUnit_108 ⟨hXτ64, (Fr.tr (Fr.tr (Fr.tr (Fr.tr Fr.rf (Fr.mo h4.2.1 (by decide) (by decide))) (Fr.mo h9.2.1 (by decide) (by decide))) (Fr.mo h58.2.1 (by decide) (by decide))) (Fr.mo h65.2.1 (by decide) (by decide))), by omega⟩
          · refine s_iconst C dX1_readUnit_96 (by decide) (fun z67 tz67 => ?_)
            exact s_zret C (by omega) X dX1_readUnit_97 ⟨hXτ57, (Fr.tr (Fr.tr (Fr.tr Fr.rf (Fr.mo h4.2.1 (by decide) (by decide))) (Fr.mo h9.2.1 (by decide) (by decide))) (Fr.mo h58.2.1 (by decide) (by decide))), by omega⟩
  · refine s_iconst C dX1_readUnit_12 (by decide) (fun z68 tz68 => ?_)
    refine s_goto (tgt := 49) C dX1_readUnit_13 (by decide) ?_
    refine s_istore_n C dX1_readUnit_49 (by decide) (Nat.le_of_ble_eq_true rfl) rfl ?_
    show WP E ad 50 [some (.ref (ad 68)), some (.int z68), none] [] τ3
    refine s_iconst C dX1_readUnit_50 (by decide) (fun z69 tz69 => ?_)
    refine s_istore_n C dX1_readUnit_51 (by decide) (Nat.le_of_ble_eq_true rfl) rfl ?_
    show WP E ad 52 [some (.ref (ad 68)), some (.int z68), some (.int z69)] [] τ3
    refine s_iload_n C dX1_readUnit_52 rfl ?_
    refine s_iconst C dX1_readUnit_53 (by decide) (fun z70 tz70 => ?_)
    refine s_icmp_eq (tgt := 62) C dX1_readUnit_54 (by decide) (fun q71 => ?_) (fun q71 => ?_)
    · refine s_aload_n C dX1_readUnit_62 rfl ?_
      refine s_getr (k := 0) (j := 66) C y68 fw_X1_19 rfl dX1_readUnit_63 ?_
      refine s_aload_n C dX1_readUnit_66 rfl ?_
      refine s_getr (k := 1) (j := 1) C y68 fw_X1_23 rfl dX1_readUnit_67 ?_
      refine s_get (k := 0) (x := (τ3.1 1 0)) C y1 fw_X1_77 rfl rfl dX1_readUnit_70 ?_
      refine s_callVI (st := []) C (c_X8_figureBelow l ad τ3 ((τ3.1 1 0)) hXτ3 ) cv_X1_82 y66 rfl rfl rfl ⟨by decide, by decide⟩ (Nat.le_of_ble_eq_true rfl) dX1_readUnit_73 ?_
      intro r72 τ73 h74
      have hXτ73 := h74.1
      have hRτ73 := h74.2.2
      have prτ73 := hXτ73.pr
      refine s_istore_n C dX1_readUnit_76 (by decide) (Nat.le_of_ble_eq_true rfl) rfl ?_
      show WP E ad 77 [some (.ref (ad 68)), some (.int z68), some (.int r72)] [] τ73
      refine s_goto (tgt := 92) C dX1_readUnit_77 (by decide) ?_
      refine s_iload_n C dX1_readUnit_92 rfl ?_
      refine s_if_ge (tgt := 98) C dX1_readUnit_93 (by decide) (fun q75 => ?_) (fun q75 => ?_)
      · refine s_aload_n C dX1_readUnit_98 rfl ?_
        refine s_iload_n C dX1_readUnit_99 rfl ?_
        refine s_iconst C dX1_readUnit_100 (by decide) (fun z76 tz76 => ?_)
        skip
        refine s_ishl C dX1_readUnit_101 (fun z77 tz77 => ?_)
        refine s_iload_n C dX1_readUnit_102 rfl ?_
        skip
        refine s_ior C dX1_readUnit_103 (fun z78 tz78 => ?_)
        refine s_callVV (st := []) C (c_X1_add l ad τ73 z78 hXτ73 (by rw [show z78 = pMk r72 z68 by rw [tz78, tz77, ceq (n := 4) tz76]; rfl]; exact pv_mk (by omega) (by omega) (by omega))) cv_X1_53 y68 rfl rfl rfl ⟨by decide, by decide⟩ (Nat.le_of_ble_eq_true rfl) dX1_readUnit_104 ?_
        intro τ80 h81
        have hXτ80 := h81.1
        have hRτ80 := h81.2.2
        have prτ80 := hXτ80.pr
        refine s_iconst C dX1_readUnit_107 (by decide) (fun z82 tz82 => ?_)
        exact s_zret C (by omega) X dX1_readUnit_108 ⟨hXτ80, (Fr.tr (Fr.tr (Fr.tr Fr.rf (Fr.mo h4.2.1 (by decide) (by decide))) (Fr.mo h74.2.1 (by decide) (by decide))) (Fr.mo h81.2.1 (by decide) (by decide))), by omega⟩
      · refine s_iconst C dX1_readUnit_96 (by decide) (fun z83 tz83 => ?_)
        exact s_zret C (by omega) X dX1_readUnit_97 ⟨hXτ73, (Fr.tr (Fr.tr Fr.rf (Fr.mo h4.2.1 (by decide) (by decide))) (Fr.mo h74.2.1 (by decide) (by decide))), by omega⟩
    · omega
set_option maxRecDepth 100000 in
theorem L_readSum (l : Launch) (ad : Nat → Nat) (E : Ev) (σ : Sg)  (C : Cx E l (rmk 2) 3 cX1_readSum RX1) (X : Rx E ad (some .boolean) (oI (fun r τ => IX τ.1 ∧ Fr [69] [(66, 1), (68, 2)] σ τ ∧ (r.toInt = 0 ∨ r.toInt = 1))))  : ∀ (n : Nat) (τ : Sg) (z : Int32), (Fr [69] [(66, 1), (68, 2)] σ τ) → (IX τ.1) → (0 ≤ z.toInt) → (60 - z.toInt).toNat < n → WP E ad 11 [some (.ref (ad 68)), some (.int z), none] [] τ := by
  intro n
  induction n with
  | zero => intro τ z kF hXτ h0 hm9; exact absurd hm9 (Nat.not_lt_zero _)
  | succ n ih =>
    intro τ z kF hXτ h0 hm9
    refine s_iload_n C dX1_readSum_11 rfl ?_
    refine s_bipush C dX1_readSum_12 (by decide) (fun z1 tz1 => ?_)
    refine s_icmp_ge (tgt := 77) C dX1_readSum_14 (by decide) (fun q2 => ?_) (fun q2 => ?_)
    · refine s_iconst C dX1_readSum_77 (by decide) (fun z3 tz3 => ?_)
      exact s_zret C (by omega) X dX1_readSum_78 ⟨hXτ, (Fr.tr Fr.rf (Fr.mo kF (by decide) (by decide))), by omega⟩
    · refine s_aload_n C dX1_readSum_17 rfl ?_
      refine s_getr (k := 0) (j := 66) C y68 fw_X1_19 rfl dX1_readSum_18 ?_
      refine s_bipush C dX1_readSum_21 (by decide) (fun z4 tz4 => ?_)
      refine s_callVI (st := []) C (c_X8_accept l ad τ z4 hXτ ) cv_X1_50 y66 rfl rfl rfl ⟨by decide, by decide⟩ (Nat.le_of_ble_eq_true rfl) dX1_readSum_23 ?_
      intro r5 τ6 h7
      have hXτ6 := h7.1
      have hRτ6 := h7.2.2
      refine s_if_eq (tgt := 33) C dX1_readSum_26 (by decide) (fun q8 => ?_) (fun q8 => ?_)
      · refine s_aload_n C dX1_readSum_33 rfl ?_
        refine s_getr (k := 0) (j := 66) C y68 fw_X1_19 rfl dX1_readSum_34 ?_
        refine s_bipush C dX1_readSum_37 (by decide) (fun z9 tz9 => ?_)
        refine s_callVI (st := []) C (c_X8_accept l ad τ6 z9 hXτ6 ) cv_X1_50 y66 rfl rfl rfl ⟨by decide, by decide⟩ (Nat.le_of_ble_eq_true rfl) dX1_readSum_39 ?_
        intro r10 τ11 h12
        have hXτ11 := h12.1
        have hRτ11 := h12.2.2
        refine s_if_eq (tgt := 49) C dX1_readSum_42 (by decide) (fun q13 => ?_) (fun q13 => ?_)
        · refine s_iconst C dX1_readSum_49 (by decide) (fun z14 tz14 => ?_)
          refine s_istore_n C dX1_readSum_50 (by decide) (Nat.le_of_ble_eq_true rfl) rfl ?_
          show WP E ad 51 [some (.ref (ad 68)), some (.int z), some (.int z14)] [] τ11
          refine s_iload_n C dX1_readSum_51 rfl ?_
          refine s_if_ge (tgt := 57) C dX1_readSum_52 (by decide) (fun q15 => ?_) (fun q15 => ?_)
          · omega
          · refine s_iconst C dX1_readSum_55 (by decide) (fun z16 tz16 => ?_)
            exact s_zret C (by omega) X dX1_readSum_56 ⟨hXτ11, (Fr.tr (Fr.tr (Fr.tr Fr.rf (Fr.mo kF (by decide) (by decide))) (Fr.mo h7.2.1 (by decide) (by decide))) (Fr.mo h12.2.1 (by decide) (by decide))), by omega⟩
        · refine s_iconst C dX1_readSum_45 (by decide) (fun z17 tz17 => ?_)
          refine s_goto (tgt := 50) C dX1_readSum_46 (by decide) ?_
          refine s_istore_n C dX1_readSum_50 (by decide) (Nat.le_of_ble_eq_true rfl) rfl ?_
          show WP E ad 51 [some (.ref (ad 68)), some (.int z), some (.int z17)] [] τ11
          refine s_iload_n C dX1_readSum_51 rfl ?_
          refine s_if_ge (tgt := 57) C dX1_readSum_52 (by decide) (fun q18 => ?_) (fun q18 => ?_)
          · refine s_aload_n C dX1_readSum_57 rfl ?_
            refine s_callVI (st := []) C (c_X1_readUnit l ad τ11  hXτ11 ) cv_X1_74 y68 rfl rfl rfl ⟨by decide, by decide⟩ (Nat.le_of_ble_eq_true rfl) dX1_readSum_58 ?_
            intro r19 τ20 h21
            have hXτ20 := h21.1
            have hRτ20 := h21.2.2
            refine s_if_ne (tgt := 66) C dX1_readSum_61 (by decide) (fun q22 => ?_) (fun q22 => ?_)
            · refine s_aload_n C dX1_readSum_66 rfl ?_
              refine s_iload_n C dX1_readSum_67 rfl ?_
              refine s_callVV (st := []) C (c_X1_add l ad τ20 z17 hXτ20 (pv_op (by omega))) cv_X1_53 y68 rfl rfl rfl ⟨by decide, by decide⟩ (Nat.le_of_ble_eq_true rfl) dX1_readSum_68 ?_
              intro τ24 h25
              have hXτ24 := h25.1
              have hRτ24 := h25.2.2
              refine s_iinc C dX1_readSum_71 rfl (by decide) rfl (by decide) (by omega) (fun z26 tz26 => ?_)
              show WP E ad 74 [some (.ref (ad 68)), some (.int z26), some (.int z17)] [] τ24
              refine s_goto (tgt := 11) C dX1_readSum_74 (by decide) ?_
              refine wp_le (lv' := [some (.ref (ad 68)), some (.int z26), none]) ⟨rfl, ⟨rfl, trivial⟩⟩ ?_
              exact ih τ24 z26 (Fr.tr (Fr.tr (Fr.tr (Fr.tr (Fr.tr Fr.rf (Fr.mo kF (by decide) (by decide))) (Fr.mo h7.2.1 (by decide) (by decide))) (Fr.mo h12.2.1 (by decide) (by decide))) (Fr.mo h21.2.1 (by decide) (by decide))) (Fr.mo h25.2.1 (by decide) (by decide))) hXτ24 (by omega) (by omega)
            · refine s_iconst C dX1_readSum_64 (by decide) (fun z27 tz27 => ?_)
              exact s_zret C (by omega) X dX1_readSum_65 ⟨hXτ20, (Fr.tr (Fr.tr (Fr.tr (Fr.tr Fr.rf (Fr.mo kF (by decide) (by decide))) (Fr.mo h7.2.1 (by decide) (by decide))) (Fr.mo h12.2.1 (by decide) (by decide))) (Fr.mo h21.2.1 (by decide) (by decide))), by omega⟩
          · omega
      · refine s_iconst C dX1_readSum_29 (by decide) (fun z28 tz28 => ?_)
        refine s_goto (tgt := 50) C dX1_readSum_30 (by decide) ?_
        refine s_istore_n C dX1_readSum_50 (by decide) (Nat.le_of_ble_eq_true rfl) rfl ?_
        show WP E ad 51 [some (.ref (ad 68)), some (.int z), some (.int z28)] [] τ6
        refine s_iload_n C dX1_readSum_51 rfl ?_
        refine s_if_ge (tgt := 57) C dX1_readSum_52 (by decide) (fun q29 => ?_) (fun q29 => ?_)
        · refine s_aload_n C dX1_readSum_57 rfl ?_
          refine s_callVI (st := []) C (c_X1_readUnit l ad τ6  hXτ6 ) cv_X1_74 y68 rfl rfl rfl ⟨by decide, by decide⟩ (Nat.le_of_ble_eq_true rfl) dX1_readSum_58 ?_
          intro r30 τ31 h32
          have hXτ31 := h32.1
          have hRτ31 := h32.2.2
          refine s_if_ne (tgt := 66) C dX1_readSum_61 (by decide) (fun q33 => ?_) (fun q33 => ?_)
          · refine s_aload_n C dX1_readSum_66 rfl ?_
            refine s_iload_n C dX1_readSum_67 rfl ?_
            refine s_callVV (st := []) C (c_X1_add l ad τ31 z28 hXτ31 (pv_op (by omega))) cv_X1_53 y68 rfl rfl rfl ⟨by decide, by decide⟩ (Nat.le_of_ble_eq_true rfl) dX1_readSum_68 ?_
            intro τ35 h36
            have hXτ35 := h36.1
            have hRτ35 := h36.2.2
            refine s_iinc C dX1_readSum_71 rfl (by decide) rfl (by decide) (by omega) (fun z37 tz37 => ?_)
            show WP E ad 74 [some (.ref (ad 68)), some (.int z37), some (.int z28)] [] τ35
            refine s_goto (tgt := 11) C dX1_readSum_74 (by decide) ?_
            refine wp_le (lv' := [some (.ref (ad 68)), some (.int z37), none]) ⟨rfl, ⟨rfl, trivial⟩⟩ ?_
            exact ih τ35 z37 (Fr.tr (Fr.tr (Fr.tr (Fr.tr Fr.rf (Fr.mo kF (by decide) (by decide))) (Fr.mo h7.2.1 (by decide) (by decide))) (Fr.mo h32.2.1 (by decide) (by decide))) (Fr.mo h36.2.1 (by decide) (by decide))) hXτ35 (by omega) (by omega)
          · refine s_iconst C dX1_readSum_64 (by decide) (fun z38 tz38 => ?_)
            exact s_zret C (by omega) X dX1_readSum_65 ⟨hXτ31, (Fr.tr (Fr.tr (Fr.tr Fr.rf (Fr.mo kF (by decide) (by decide))) (Fr.mo h7.2.1 (by decide) (by decide))) (Fr.mo h32.2.1 (by decide) (by decide))), by omega⟩
        · omega
set_option maxRecDepth 100000 in
theorem c_X1_readSum (l : Launch) (ad : Nat → Nat) (σ : Sg)  (hX : IX σ.1)  : Mt l yX1_readSum cX1_readSum 3 (some .boolean) 2 ad σ [.ref (ad 68)] (oI (fun r τ => IX τ.1 ∧ Fr [69] [(66, 1), (68, 2)] σ τ ∧ (r.toInt = 0 ∨ r.toInt = 1))) := by
  refine Mt_intro (by decide +kernel) (by simp [lg_sl, Value.category]) (fun E C X => ?_)
  show WP E ad 0 [some (.ref (ad 68)), none, none] [] σ
  refine s_aload_n C dX1_readSum_0 rfl ?_
  refine s_callVI (st := []) C (c_X1_readUnit l ad σ  hX ) cv_X1_74 y68 rfl rfl rfl ⟨by decide, by decide⟩ (Nat.le_of_ble_eq_true rfl) dX1_readSum_1 ?_
  intro r1 τ2 h3
  have hXτ2 := h3.1
  have hRτ2 := h3.2.2
  refine s_if_ne (tgt := 9) C dX1_readSum_4 (by decide) (fun q4 => ?_) (fun q4 => ?_)
  · refine s_iconst C dX1_readSum_9 (by decide) (fun z5 tz5 => ?_)
    refine s_istore_n C dX1_readSum_10 (by decide) (Nat.le_of_ble_eq_true rfl) rfl ?_
    show WP E ad 11 [some (.ref (ad 68)), some (.int z5), none] [] τ2
    exact L_readSum l ad E σ  C X 100 τ2 z5 (Fr.tr Fr.rf (Fr.mo h3.2.1 (by decide) (by decide))) hXτ2 (by omega) (by omega)
  · refine s_iconst C dX1_readSum_7 (by decide) (fun z6 tz6 => ?_)
    exact s_zret C (by omega) X dX1_readSum_8 ⟨hXτ2, (Fr.tr Fr.rf (Fr.mo h3.2.1 (by decide) (by decide))), by omega⟩
set_option maxRecDepth 100000 in
theorem c_X1_readComparison (l : Launch) (ad : Nat → Nat) (σ : Sg)  (hX : IX σ.1)  : Mt l yX1_readComparison cX1_readComparison 2 (some .boolean) 3 ad σ [.ref (ad 68)] (oI (fun r τ => IX τ.1 ∧ Fr [69] [(66, 1), (68, 2)] σ τ ∧ (r.toInt = 0 ∨ r.toInt = 1))) := by
  refine Mt_intro (by decide +kernel) (by simp [lg_sl, Value.category]) (fun E C X => ?_)
  show WP E ad 0 [some (.ref (ad 68)), none] [] σ
  refine s_aload_n C dX1_readComparison_0 rfl ?_
  refine s_callVI (st := []) C (c_X1_readSum l ad σ  hX ) cv_X1_71 y68 rfl rfl rfl ⟨by decide, by decide⟩ (Nat.le_of_ble_eq_true rfl) dX1_readComparison_1 ?_
  intro r1 τ2 h3
  have hXτ2 := h3.1
  have hRτ2 := h3.2.2
  refine s_if_ne (tgt := 9) C dX1_readComparison_4 (by decide) (fun q4 => ?_) (fun q4 => ?_)
  · refine s_aload_n C dX1_readComparison_9 rfl ?_
    refine s_getr (k := 0) (j := 66) C y68 fw_X1_19 rfl dX1_readComparison_10 ?_
    refine s_bipush C dX1_readComparison_13 (by decide) (fun z5 tz5 => ?_)
    refine s_callVI (st := []) C (c_X8_accept l ad τ2 z5 hXτ2 ) cv_X1_50 y66 rfl rfl rfl ⟨by decide, by decide⟩ (Nat.le_of_ble_eq_true rfl) dX1_readComparison_15 ?_
    intro r6 τ7 h8
    have hXτ7 := h8.1
    have hRτ7 := h8.2.2
    refine s_if_eq (tgt := 26) C dX1_readComparison_18 (by decide) (fun q9 => ?_) (fun q9 => ?_)
    · refine s_aload_n C dX1_readComparison_26 rfl ?_
      refine s_getr (k := 0) (j := 66) C y68 fw_X1_19 rfl dX1_readComparison_27 ?_
      refine s_bipush C dX1_readComparison_30 (by decide) (fun z10 tz10 => ?_)
      refine s_callVI (st := []) C (c_X8_accept l ad τ7 z10 hXτ7 ) cv_X1_50 y66 rfl rfl rfl ⟨by decide, by decide⟩ (Nat.le_of_ble_eq_true rfl) dX1_readComparison_32 ?_
      intro r11 τ12 h13
      have hXτ12 := h13.1
      have hRτ12 := h13.2.2
      refine s_if_eq (tgt := 43) C dX1_readComparison_35 (by decide) (fun q14 => ?_) (fun q14 => ?_)
      · refine s_aload_n C dX1_readComparison_43 rfl ?_
        refine s_getr (k := 0) (j := 66) C y68 fw_X1_19 rfl dX1_readComparison_44 ?_
        refine s_bipush C dX1_readComparison_47 (by decide) (fun z15 tz15 => ?_)
        refine s_callVI (st := []) C (c_X8_accept l ad τ12 z15 hXτ12 ) cv_X1_50 y66 rfl rfl rfl ⟨by decide, by decide⟩ (Nat.le_of_ble_eq_true rfl) dX1_readComparison_49 ?_
        intro r16 τ17 h18
        have hXτ17 := h18.1
        have hRτ17 := h18.2.2
        refine s_if_eq (tgt := 60) C dX1_readComparison_52 (by decide) (fun q19 => ?_) (fun q19 => ?_)
        · refine s_iconst C dX1_readComparison_60 (by decide) (fun z20 tz20 => ?_)
          refine s_istore_n C dX1_readComparison_61 (by decide) (Nat.le_of_ble_eq_true rfl) rfl ?_
          show WP E ad 62 [some (.ref (ad 68)), some (.int z20)] [] τ17
          refine s_iload_n C dX1_readComparison_62 rfl ?_
          refine s_if_lt (tgt := 73) C dX1_readComparison_63 (by decide) (fun q21 => ?_) (fun q21 => ?_)
          · refine s_iconst C dX1_readComparison_73 (by decide) (fun z22 tz22 => ?_)
            exact s_zret C (by omega) X dX1_readComparison_74 ⟨hXτ17, (Fr.tr (Fr.tr (Fr.tr (Fr.tr Fr.rf (Fr.mo h3.2.1 (by decide) (by decide))) (Fr.mo h8.2.1 (by decide) (by decide))) (Fr.mo h13.2.1 (by decide) (by decide))) (Fr.mo h18.2.1 (by decide) (by decide))), by omega⟩
          · omega
        · refine s_bipush C dX1_readComparison_55 (by decide) (fun z23 tz23 => ?_)
          refine s_goto (tgt := 61) C dX1_readComparison_57 (by decide) ?_
          refine s_istore_n C dX1_readComparison_61 (by decide) (Nat.le_of_ble_eq_true rfl) rfl ?_
          show WP E ad 62 [some (.ref (ad 68)), some (.int z23)] [] τ17
          refine s_iload_n C dX1_readComparison_62 rfl ?_
          refine s_if_lt (tgt := 73) C dX1_readComparison_63 (by decide) (fun q24 => ?_) (fun q24 => ?_)
          · omega
          · refine s_aload_n C dX1_readComparison_66 rfl ?_
            refine s_callVI (st := []) C (c_X1_readSum l ad τ17  hXτ17 ) cv_X1_71 y68 rfl rfl rfl ⟨by decide, by decide⟩ (Nat.le_of_ble_eq_true rfl) dX1_readComparison_67 ?_
            intro r25 τ26 h27
            have hXτ26 := h27.1
            have hRτ26 := h27.2.2
            refine s_if_ne (tgt := 75) C dX1_readComparison_70 (by decide) (fun q28 => ?_) (fun q28 => ?_)
            · refine s_aload_n C dX1_readComparison_75 rfl ?_
              refine s_iload_n C dX1_readComparison_76 rfl ?_
              refine s_callVV (st := []) C (c_X1_add l ad τ26 z23 hXτ26 (pv_op (by omega))) cv_X1_53 y68 rfl rfl rfl ⟨by decide, by decide⟩ (Nat.le_of_ble_eq_true rfl) dX1_readComparison_77 ?_
              intro τ30 h31
              have hXτ30 := h31.1
              have hRτ30 := h31.2.2
              refine s_iconst C dX1_readComparison_80 (by decide) (fun z32 tz32 => ?_)
              exact s_zret C (by omega) X dX1_readComparison_81 ⟨hXτ30, (Fr.tr (Fr.tr (Fr.tr (Fr.tr (Fr.tr (Fr.tr Fr.rf (Fr.mo h3.2.1 (by decide) (by decide))) (Fr.mo h8.2.1 (by decide) (by decide))) (Fr.mo h13.2.1 (by decide) (by decide))) (Fr.mo h18.2.1 (by decide) (by decide))) (Fr.mo h27.2.1 (by decide) (by decide))) (Fr.mo h31.2.1 (by decide) (by decide))), by omega⟩
            · refine s_iconst C dX1_readComparison_73 (by decide) (fun z33 tz33 => ?_)
              exact s_zret C (by omega) X dX1_readComparison_74 ⟨hXτ26, (Fr.tr (Fr.tr (Fr.tr (Fr.tr (Fr.tr Fr.rf (Fr.mo h3.2.1 (by decide) (by decide))) (Fr.mo h8.2.1 (by decide) (by decide))) (Fr.mo h13.2.1 (by decide) (by decide))) (Fr.mo h18.2.1 (by decide) (by decide))) (Fr.mo h27.2.1 (by decide) (by decide))), by omega⟩
      · refine s_bipush C dX1_readComparison_38 (by decide) (fun z34 tz34 => ?_)
        refine s_goto (tgt := 61) C dX1_readComparison_40 (by decide) ?_
        refine s_istore_n C dX1_readComparison_61 (by decide) (Nat.le_of_ble_eq_true rfl) rfl ?_
        show WP E ad 62 [some (.ref (ad 68)), some (.int z34)] [] τ12
        refine s_iload_n C dX1_readComparison_62 rfl ?_
        refine s_if_lt (tgt := 73) C dX1_readComparison_63 (by decide) (fun q35 => ?_) (fun q35 => ?_)
        · omega
        · refine s_aload_n C dX1_readComparison_66 rfl ?_
          refine s_callVI (st := []) C (c_X1_readSum l ad τ12  hXτ12 ) cv_X1_71 y68 rfl rfl rfl ⟨by decide, by decide⟩ (Nat.le_of_ble_eq_true rfl) dX1_readComparison_67 ?_
          intro r36 τ37 h38
          have hXτ37 := h38.1
          have hRτ37 := h38.2.2
          refine s_if_ne (tgt := 75) C dX1_readComparison_70 (by decide) (fun q39 => ?_) (fun q39 => ?_)
          · refine s_aload_n C dX1_readComparison_75 rfl ?_
            refine s_iload_n C dX1_readComparison_76 rfl ?_
            refine s_callVV (st := []) C (c_X1_add l ad τ37 z34 hXτ37 (pv_op (by omega))) cv_X1_53 y68 rfl rfl rfl ⟨by decide, by decide⟩ (Nat.le_of_ble_eq_true rfl) dX1_readComparison_77 ?_
            intro τ41 h42
            have hXτ41 := h42.1
            have hRτ41 := h42.2.2
            refine s_iconst C dX1_readComparison_80 (by decide) (fun z43 tz43 => ?_)
            exact s_zret C (by omega) X dX1_readComparison_81 ⟨hXτ41, (Fr.tr (Fr.tr (Fr.tr (Fr.tr (Fr.tr Fr.rf (Fr.mo h3.2.1 (by decide) (by decide))) (Fr.mo h8.2.1 (by decide) (by decide))) (Fr.mo h13.2.1 (by decide) (by decide))) (Fr.mo h38.2.1 (by decide) (by decide))) (Fr.mo h42.2.1 (by decide) (by decide))), by omega⟩
          · refine s_iconst C dX1_readComparison_73 (by decide) (fun z44 tz44 => ?_)
            exact s_zret C (by omega) X dX1_readComparison_74 ⟨hXτ37, (Fr.tr (Fr.tr (Fr.tr (Fr.tr Fr.rf (Fr.mo h3.2.1 (by decide) (by decide))) (Fr.mo h8.2.1 (by decide) (by decide))) (Fr.mo h13.2.1 (by decide) (by decide))) (Fr.mo h38.2.1 (by decide) (by decide))), by omega⟩
    · refine s_bipush C dX1_readComparison_21 (by decide) (fun z45 tz45 => ?_)
      refine s_goto (tgt := 61) C dX1_readComparison_23 (by decide) ?_
      refine s_istore_n C dX1_readComparison_61 (by decide) (Nat.le_of_ble_eq_true rfl) rfl ?_
      show WP E ad 62 [some (.ref (ad 68)), some (.int z45)] [] τ7
      refine s_iload_n C dX1_readComparison_62 rfl ?_
      refine s_if_lt (tgt := 73) C dX1_readComparison_63 (by decide) (fun q46 => ?_) (fun q46 => ?_)
      · omega
      · refine s_aload_n C dX1_readComparison_66 rfl ?_
        refine s_callVI (st := []) C (c_X1_readSum l ad τ7  hXτ7 ) cv_X1_71 y68 rfl rfl rfl ⟨by decide, by decide⟩ (Nat.le_of_ble_eq_true rfl) dX1_readComparison_67 ?_
        intro r47 τ48 h49
        have hXτ48 := h49.1
        have hRτ48 := h49.2.2
        refine s_if_ne (tgt := 75) C dX1_readComparison_70 (by decide) (fun q50 => ?_) (fun q50 => ?_)
        · refine s_aload_n C dX1_readComparison_75 rfl ?_
          refine s_iload_n C dX1_readComparison_76 rfl ?_
          refine s_callVV (st := []) C (c_X1_add l ad τ48 z45 hXτ48 (pv_op (by omega))) cv_X1_53 y68 rfl rfl rfl ⟨by decide, by decide⟩ (Nat.le_of_ble_eq_true rfl) dX1_readComparison_77 ?_
          intro τ52 h53
          have hXτ52 := h53.1
          have hRτ52 := h53.2.2
          refine s_iconst C dX1_readComparison_80 (by decide) (fun z54 tz54 => ?_)
          exact s_zret C (by omega) X dX1_readComparison_81 ⟨hXτ52, (Fr.tr (Fr.tr (Fr.tr (Fr.tr Fr.rf (Fr.mo h3.2.1 (by decide) (by decide))) (Fr.mo h8.2.1 (by decide) (by decide))) (Fr.mo h49.2.1 (by decide) (by decide))) (Fr.mo h53.2.1 (by decide) (by decide))), by omega⟩
        · refine s_iconst C dX1_readComparison_73 (by decide) (fun z55 tz55 => ?_)
          exact s_zret C (by omega) X dX1_readComparison_74 ⟨hXτ48, (Fr.tr (Fr.tr (Fr.tr Fr.rf (Fr.mo h3.2.1 (by decide) (by decide))) (Fr.mo h8.2.1 (by decide) (by decide))) (Fr.mo h49.2.1 (by decide) (by decide))), by omega⟩
  · refine s_iconst C dX1_readComparison_7 (by decide) (fun z56 tz56 => ?_)
    exact s_zret C (by omega) X dX1_readComparison_8 ⟨hXτ2, (Fr.tr Fr.rf (Fr.mo h3.2.1 (by decide) (by decide))), by omega⟩
set_option maxRecDepth 100000 in
theorem c_X1_readTest_5 (l : Launch) (ad : Nat → Nat) (σ : Sg) (d : Int32) (hX : IX σ.1) (hd : d.toInt = 5) : Mt l yX1_readTest cX1_readTest 3 (some .boolean) 4 ad σ [.ref (ad 68), .int d] (oI (fun r τ => IX τ.1 ∧ Fr [69] [(66, 1), (68, 2)] σ τ ∧ (r.toInt = 0 ∨ r.toInt = 1))) := by
  refine Mt_intro (by decide +kernel) (by simp [lg_sl, Value.category]) (fun E C X => ?_)
  show WP E ad 0 [some (.ref (ad 68)), some (.int d), none] [] σ
  refine s_aload_n C dX1_readTest_0 rfl ?_
  refine s_getr (k := 0) (j := 66) C y68 fw_X1_19 rfl dX1_readTest_1 ?_
  refine s_callVI (st := []) C (c_X8_peek l ad σ  hX) cv_X1_60 y66 rfl rfl rfl ⟨by decide, by decide⟩ (Nat.le_of_ble_eq_true rfl) dX1_readTest_4 ?_
  intro r1 τ2 h3
  obtain ⟨eh3, h3⟩ := h3; replace eh3 := eh3.symm; subst eh3
  refine s_istore_n C dX1_readTest_7 (by decide) (Nat.le_of_ble_eq_true rfl) rfl ?_
  show WP E ad 8 [some (.ref (ad 68)), some (.int d), some (.int r1)] [] σ
  refine s_iload_n C dX1_readTest_8 rfl ?_
  refine s_bipush C dX1_readTest_9 (by decide) (fun z4 tz4 => ?_)
  refine s_icmp_eq (tgt := 25) C dX1_readTest_11 (by decide) (fun q5 => ?_) (fun q5 => ?_)
  · refine s_iload_n C dX1_readTest_25 rfl ?_
    refine s_iconst C dX1_readTest_26 (by decide) (fun z6 tz6 => ?_)
    refine s_icmp_lt (tgt := 32) C dX1_readTest_27 (by decide) (fun q7 => ?_) (fun q7 => ?_)
    · omega
    · refine s_iconst C dX1_readTest_30 (by decide) (fun z8 tz8 => ?_)
      exact s_zret C (by omega) X dX1_readTest_31 ⟨hX, Fr.rf, by omega⟩
  · refine s_iload_n C dX1_readTest_14 rfl ?_
    refine s_bipush C dX1_readTest_15 (by decide) (fun z9 tz9 => ?_)
    refine s_icmp_eq (tgt := 25) C dX1_readTest_17 (by decide) (fun q10 => ?_) (fun q10 => ?_)
    · refine s_iload_n C dX1_readTest_25 rfl ?_
      refine s_iconst C dX1_readTest_26 (by decide) (fun z11 tz11 => ?_)
      refine s_icmp_lt (tgt := 32) C dX1_readTest_27 (by decide) (fun q12 => ?_) (fun q12 => ?_)
      · omega
      · refine s_iconst C dX1_readTest_30 (by decide) (fun z13 tz13 => ?_)
        exact s_zret C (by omega) X dX1_readTest_31 ⟨hX, Fr.rf, by omega⟩
    · refine s_aload_n C dX1_readTest_20 rfl ?_
      refine s_callVI (st := []) C (c_X1_readComparison l ad σ  hX ) cv_X1_64 y68 rfl rfl rfl ⟨by decide, by decide⟩ (Nat.le_of_ble_eq_true rfl) dX1_readTest_21 ?_
      intro r14 τ15 h16
      have hXτ15 := h16.1
      have hRτ15 := h16.2.2
      exact s_zret C (by omega) X dX1_readTest_24 ⟨hXτ15, (Fr.tr Fr.rf (Fr.mo h16.2.1 (by decide) (by decide))), by omega⟩
set_option maxRecDepth 100000 in
theorem L_readAll_5 (l : Launch) (ad : Nat → Nat) (E : Ev) (σ : Sg) (d : Int32) (hd : d.toInt = 5) (C : Cx E l (rmk 5) 3 cX1_readAll RX1) (X : Rx E ad (some .boolean) (oI (fun r τ => IX τ.1 ∧ Fr [69] [(66, 1), (68, 2)] σ τ ∧ (r.toInt = 0 ∨ r.toInt = 1))))  : ∀ (n : Nat) (τ : Sg) (z : Int32), (Fr [69] [(66, 1), (68, 2)] σ τ) → (IX τ.1) → (0 ≤ z.toInt) → (60 - z.toInt).toNat < n → WP E ad 12 [some (.ref (ad 68)), some (.int d), some (.int z)] [] τ := by
  intro n
  induction n with
  | zero => intro τ z kF hXτ h0 hm9; exact absurd hm9 (Nat.not_lt_zero _)
  | succ n ih =>
    intro τ z kF hXτ h0 hm9
    refine s_iload_n C dX1_readAll_12 rfl ?_
    refine s_bipush C dX1_readAll_13 (by decide) (fun z1 tz1 => ?_)
    refine s_icmp_ge (tgt := 52) C dX1_readAll_15 (by decide) (fun q2 => ?_) (fun q2 => ?_)
    · refine s_iconst C dX1_readAll_52 (by decide) (fun z3 tz3 => ?_)
      exact s_zret C (by omega) X dX1_readAll_53 ⟨hXτ, (Fr.tr Fr.rf (Fr.mo kF (by decide) (by decide))), by omega⟩
    · refine s_aload_n C dX1_readAll_18 rfl ?_
      refine s_getr (k := 0) (j := 66) C y68 fw_X1_19 rfl dX1_readAll_19 ?_
      refine s_bipush C dX1_readAll_22 (by decide) (fun z4 tz4 => ?_)
      refine s_callVI (st := []) C (c_X8_accept l ad τ z4 hXτ ) cv_X1_50 y66 rfl rfl rfl ⟨by decide, by decide⟩ (Nat.le_of_ble_eq_true rfl) dX1_readAll_24 ?_
      intro r5 τ6 h7
      have hXτ6 := h7.1
      have hRτ6 := h7.2.2
      refine s_if_eq (tgt := 52) C dX1_readAll_27 (by decide) (fun q8 => ?_) (fun q8 => ?_)
      · refine s_iconst C dX1_readAll_52 (by decide) (fun z9 tz9 => ?_)
        exact s_zret C (by omega) X dX1_readAll_53 ⟨hXτ6, (Fr.tr (Fr.tr Fr.rf (Fr.mo kF (by decide) (by decide))) (Fr.mo h7.2.1 (by decide) (by decide))), by omega⟩
      · refine s_aload_n C dX1_readAll_30 rfl ?_
        refine s_iload_n C dX1_readAll_31 rfl ?_
        refine s_callVI (st := []) C (c_X1_readTest_5 l ad τ6 d hXτ6 (by omega)) cv_X1_57 y68 rfl rfl rfl ⟨by decide, by decide⟩ (Nat.le_of_ble_eq_true rfl) dX1_readAll_32 ?_
        intro r10 τ11 h12
        have hXτ11 := h12.1
        have hRτ11 := h12.2.2
        refine s_if_ne (tgt := 40) C dX1_readAll_35 (by decide) (fun q13 => ?_) (fun q13 => ?_)
        · refine s_aload_n C dX1_readAll_40 rfl ?_
          refine s_bipush C dX1_readAll_41 (by decide) (fun z14 tz14 => ?_)
          refine s_callVV (st := []) C (c_X1_add l ad τ11 z14 hXτ11 (pv_op (by omega))) cv_X1_53 y68 rfl rfl rfl ⟨by decide, by decide⟩ (Nat.le_of_ble_eq_true rfl) dX1_readAll_43 ?_
          intro τ16 h17
          have hXτ16 := h17.1
          have hRτ16 := h17.2.2
          refine s_iinc C dX1_readAll_46 rfl (by decide) rfl (by decide) (by omega) (fun z18 tz18 => ?_)
          show WP E ad 49 [some (.ref (ad 68)), some (.int d), some (.int z18)] [] τ16
          refine s_goto (tgt := 12) C dX1_readAll_49 (by decide) ?_
          exact ih τ16 z18 (Fr.tr (Fr.tr (Fr.tr (Fr.tr Fr.rf (Fr.mo kF (by decide) (by decide))) (Fr.mo h7.2.1 (by decide) (by decide))) (Fr.mo h12.2.1 (by decide) (by decide))) (Fr.mo h17.2.1 (by decide) (by decide))) hXτ16 (by omega) (by omega)
        · refine s_iconst C dX1_readAll_38 (by decide) (fun z19 tz19 => ?_)
          exact s_zret C (by omega) X dX1_readAll_39 ⟨hXτ11, (Fr.tr (Fr.tr (Fr.tr Fr.rf (Fr.mo kF (by decide) (by decide))) (Fr.mo h7.2.1 (by decide) (by decide))) (Fr.mo h12.2.1 (by decide) (by decide))), by omega⟩
set_option maxRecDepth 100000 in
theorem c_X1_readAll_5 (l : Launch) (ad : Nat → Nat) (σ : Sg) (d : Int32) (hX : IX σ.1) (hd : d.toInt = 5) : Mt l yX1_readAll cX1_readAll 3 (some .boolean) 5 ad σ [.ref (ad 68), .int d] (oI (fun r τ => IX τ.1 ∧ Fr [69] [(66, 1), (68, 2)] σ τ ∧ (r.toInt = 0 ∨ r.toInt = 1))) := by
  refine Mt_intro (by decide +kernel) (by simp [lg_sl, Value.category]) (fun E C X => ?_)
  show WP E ad 0 [some (.ref (ad 68)), some (.int d), none] [] σ
  refine s_aload_n C dX1_readAll_0 rfl ?_
  refine s_iload_n C dX1_readAll_1 rfl ?_
  refine s_callVI (st := []) C (c_X1_readTest_5 l ad σ d hX (by omega)) cv_X1_57 y68 rfl rfl rfl ⟨by decide, by decide⟩ (Nat.le_of_ble_eq_true rfl) dX1_readAll_2 ?_
  intro r1 τ2 h3
  have hXτ2 := h3.1
  have hRτ2 := h3.2.2
  refine s_if_ne (tgt := 10) C dX1_readAll_5 (by decide) (fun q4 => ?_) (fun q4 => ?_)
  · refine s_iconst C dX1_readAll_10 (by decide) (fun z5 tz5 => ?_)
    refine s_istore_n C dX1_readAll_11 (by decide) (Nat.le_of_ble_eq_true rfl) rfl ?_
    show WP E ad 12 [some (.ref (ad 68)), some (.int d), some (.int z5)] [] τ2
    exact L_readAll_5 l ad E σ d hd C X 100 τ2 z5 (Fr.tr Fr.rf (Fr.mo h3.2.1 (by decide) (by decide))) hXτ2 (by omega) (by omega)
  · refine s_iconst C dX1_readAll_8 (by decide) (fun z6 tz6 => ?_)
    exact s_zret C (by omega) X dX1_readAll_9 ⟨hXτ2, (Fr.tr Fr.rf (Fr.mo h3.2.1 (by decide) (by decide))), by omega⟩
set_option maxRecDepth 100000 in
theorem L_readCondition_5 (l : Launch) (ad : Nat → Nat) (E : Ev) (σ : Sg) (d : Int32) (hd : d.toInt = 5) (C : Cx E l (rmk 6) 3 cX1_readCondition RX1) (X : Rx E ad (some .boolean) (oI (fun r τ => IX τ.1 ∧ Fr [69] [(66, 1), (68, 2)] σ τ ∧ (r.toInt = 0 ∨ r.toInt = 1))))  : ∀ (n : Nat) (τ : Sg) (z : Int32), (Fr [69] [(66, 1), (68, 2)] σ τ) → (IX τ.1) → (0 ≤ z.toInt) → (60 - z.toInt).toNat < n → WP E ad 12 [some (.ref (ad 68)), some (.int d), some (.int z)] [] τ := by
  intro n
  induction n with
  | zero => intro τ z kF hXτ h0 hm9; exact absurd hm9 (Nat.not_lt_zero _)
  | succ n ih =>
    intro τ z kF hXτ h0 hm9
    refine s_iload_n C dX1_readCondition_12 rfl ?_
    refine s_bipush C dX1_readCondition_13 (by decide) (fun z1 tz1 => ?_)
    refine s_icmp_ge (tgt := 52) C dX1_readCondition_15 (by decide) (fun q2 => ?_) (fun q2 => ?_)
    · refine s_iconst C dX1_readCondition_52 (by decide) (fun z3 tz3 => ?_)
      exact s_zret C (by omega) X dX1_readCondition_53 ⟨hXτ, (Fr.tr Fr.rf (Fr.mo kF (by decide) (by decide))), by omega⟩
    · refine s_aload_n C dX1_readCondition_18 rfl ?_
      refine s_getr (k := 0) (j := 66) C y68 fw_X1_19 rfl dX1_readCondition_19 ?_
      refine s_bipush C dX1_readCondition_22 (by decide) (fun z4 tz4 => ?_)
      refine s_callVI (st := []) C (c_X8_accept l ad τ z4 hXτ ) cv_X1_50 y66 rfl rfl rfl ⟨by decide, by decide⟩ (Nat.le_of_ble_eq_true rfl) dX1_readCondition_24 ?_
      intro r5 τ6 h7
      have hXτ6 := h7.1
      have hRτ6 := h7.2.2
      refine s_if_eq (tgt := 52) C dX1_readCondition_27 (by decide) (fun q8 => ?_) (fun q8 => ?_)
      · refine s_iconst C dX1_readCondition_52 (by decide) (fun z9 tz9 => ?_)
        exact s_zret C (by omega) X dX1_readCondition_53 ⟨hXτ6, (Fr.tr (Fr.tr Fr.rf (Fr.mo kF (by decide) (by decide))) (Fr.mo h7.2.1 (by decide) (by decide))), by omega⟩
      · refine s_aload_n C dX1_readCondition_30 rfl ?_
        refine s_iload_n C dX1_readCondition_31 rfl ?_
        refine s_callVI (st := []) C (c_X1_readAll_5 l ad τ6 d hXτ6 (by omega)) cv_X1_46 y68 rfl rfl rfl ⟨by decide, by decide⟩ (Nat.le_of_ble_eq_true rfl) dX1_readCondition_32 ?_
        intro r10 τ11 h12
        have hXτ11 := h12.1
        have hRτ11 := h12.2.2
        refine s_if_ne (tgt := 40) C dX1_readCondition_35 (by decide) (fun q13 => ?_) (fun q13 => ?_)
        · refine s_aload_n C dX1_readCondition_40 rfl ?_
          refine s_bipush C dX1_readCondition_41 (by decide) (fun z14 tz14 => ?_)
          refine s_callVV (st := []) C (c_X1_add l ad τ11 z14 hXτ11 (pv_op (by omega))) cv_X1_53 y68 rfl rfl rfl ⟨by decide, by decide⟩ (Nat.le_of_ble_eq_true rfl) dX1_readCondition_43 ?_
          intro τ16 h17
          have hXτ16 := h17.1
          have hRτ16 := h17.2.2
          refine s_iinc C dX1_readCondition_46 rfl (by decide) rfl (by decide) (by omega) (fun z18 tz18 => ?_)
          show WP E ad 49 [some (.ref (ad 68)), some (.int d), some (.int z18)] [] τ16
          refine s_goto (tgt := 12) C dX1_readCondition_49 (by decide) ?_
          exact ih τ16 z18 (Fr.tr (Fr.tr (Fr.tr (Fr.tr Fr.rf (Fr.mo kF (by decide) (by decide))) (Fr.mo h7.2.1 (by decide) (by decide))) (Fr.mo h12.2.1 (by decide) (by decide))) (Fr.mo h17.2.1 (by decide) (by decide))) hXτ16 (by omega) (by omega)
        · refine s_iconst C dX1_readCondition_38 (by decide) (fun z19 tz19 => ?_)
          exact s_zret C (by omega) X dX1_readCondition_39 ⟨hXτ11, (Fr.tr (Fr.tr (Fr.tr Fr.rf (Fr.mo kF (by decide) (by decide))) (Fr.mo h7.2.1 (by decide) (by decide))) (Fr.mo h12.2.1 (by decide) (by decide))), by omega⟩
set_option maxRecDepth 100000 in
theorem c_X1_readCondition_5 (l : Launch) (ad : Nat → Nat) (σ : Sg) (d : Int32) (hX : IX σ.1) (hd : d.toInt = 5) : Mt l yX1_readCondition cX1_readCondition 3 (some .boolean) 6 ad σ [.ref (ad 68), .int d] (oI (fun r τ => IX τ.1 ∧ Fr [69] [(66, 1), (68, 2)] σ τ ∧ (r.toInt = 0 ∨ r.toInt = 1))) := by
  refine Mt_intro (by decide +kernel) (by simp [lg_sl, Value.category]) (fun E C X => ?_)
  show WP E ad 0 [some (.ref (ad 68)), some (.int d), none] [] σ
  refine s_aload_n C dX1_readCondition_0 rfl ?_
  refine s_iload_n C dX1_readCondition_1 rfl ?_
  refine s_callVI (st := []) C (c_X1_readAll_5 l ad σ d hX (by omega)) cv_X1_46 y68 rfl rfl rfl ⟨by decide, by decide⟩ (Nat.le_of_ble_eq_true rfl) dX1_readCondition_2 ?_
  intro r1 τ2 h3
  have hXτ2 := h3.1
  have hRτ2 := h3.2.2
  refine s_if_ne (tgt := 10) C dX1_readCondition_5 (by decide) (fun q4 => ?_) (fun q4 => ?_)
  · refine s_iconst C dX1_readCondition_10 (by decide) (fun z5 tz5 => ?_)
    refine s_istore_n C dX1_readCondition_11 (by decide) (Nat.le_of_ble_eq_true rfl) rfl ?_
    show WP E ad 12 [some (.ref (ad 68)), some (.int d), some (.int z5)] [] τ2
    exact L_readCondition_5 l ad E σ d hd C X 100 τ2 z5 (Fr.tr Fr.rf (Fr.mo h3.2.1 (by decide) (by decide))) hXτ2 (by omega) (by omega)
  · refine s_iconst C dX1_readCondition_8 (by decide) (fun z6 tz6 => ?_)
    exact s_zret C (by omega) X dX1_readCondition_9 ⟨hXτ2, (Fr.tr Fr.rf (Fr.mo h3.2.1 (by decide) (by decide))), by omega⟩
set_option maxRecDepth 100000 in
theorem c_X1_readTest_4 (l : Launch) (ad : Nat → Nat) (σ : Sg) (d : Int32) (hX : IX σ.1) (hd : d.toInt = 4) : Mt l yX1_readTest cX1_readTest 3 (some .boolean) 7 ad σ [.ref (ad 68), .int d] (oI (fun r τ => IX τ.1 ∧ Fr [69] [(66, 1), (68, 2)] σ τ ∧ (r.toInt = 0 ∨ r.toInt = 1))) := by
  refine Mt_intro (by decide +kernel) (by simp [lg_sl, Value.category]) (fun E C X => ?_)
  show WP E ad 0 [some (.ref (ad 68)), some (.int d), none] [] σ
  refine s_aload_n C dX1_readTest_0 rfl ?_
  refine s_getr (k := 0) (j := 66) C y68 fw_X1_19 rfl dX1_readTest_1 ?_
  refine s_callVI (st := []) C (c_X8_peek l ad σ  hX) cv_X1_60 y66 rfl rfl rfl ⟨by decide, by decide⟩ (Nat.le_of_ble_eq_true rfl) dX1_readTest_4 ?_
  intro r1 τ2 h3
  obtain ⟨eh3, h3⟩ := h3; replace eh3 := eh3.symm; subst eh3
  refine s_istore_n C dX1_readTest_7 (by decide) (Nat.le_of_ble_eq_true rfl) rfl ?_
  show WP E ad 8 [some (.ref (ad 68)), some (.int d), some (.int r1)] [] σ
  refine s_iload_n C dX1_readTest_8 rfl ?_
  refine s_bipush C dX1_readTest_9 (by decide) (fun z4 tz4 => ?_)
  refine s_icmp_eq (tgt := 25) C dX1_readTest_11 (by decide) (fun q5 => ?_) (fun q5 => ?_)
  · refine s_iload_n C dX1_readTest_25 rfl ?_
    refine s_iconst C dX1_readTest_26 (by decide) (fun z6 tz6 => ?_)
    refine s_icmp_lt (tgt := 32) C dX1_readTest_27 (by decide) (fun q7 => ?_) (fun q7 => ?_)
    · refine s_aload_n C dX1_readTest_32 rfl ?_
      refine s_getr (k := 0) (j := 66) C y68 fw_X1_19 rfl dX1_readTest_33 ?_
      refine s_iload_n C dX1_readTest_36 rfl ?_
      refine s_callVI (st := []) C (c_X8_accept l ad σ r1 hX ) cv_X1_50 y66 rfl rfl rfl ⟨by decide, by decide⟩ (Nat.le_of_ble_eq_true rfl) dX1_readTest_37 ?_
      intro r8 τ9 h10
      have hXτ9 := h10.1
      have hRτ9 := h10.2.2
      refine s_pop C dX1_readTest_40 rfl ?_
      refine s_iload_n C dX1_readTest_41 rfl ?_
      refine s_bipush C dX1_readTest_42 (by decide) (fun z11 tz11 => ?_)
      refine s_icmp_ne (tgt := 75) C dX1_readTest_44 (by decide) (fun q12 => ?_) (fun q12 => ?_)
      · refine s_aload_n C dX1_readTest_75 rfl ?_
        refine s_iload_n C dX1_readTest_76 rfl ?_
        refine s_iconst C dX1_readTest_77 (by decide) (fun z13 tz13 => ?_)
        refine s_iadd C dX1_readTest_78 (by omega) (fun z14 tz14 => ?_)
        refine s_callVI (st := []) C (c_X1_readTest_5 l ad τ9 z14 hXτ9 (by omega)) cv_X1_57 y68 rfl rfl rfl ⟨by decide, by decide⟩ (Nat.le_of_ble_eq_true rfl) dX1_readTest_79 ?_
        intro r15 τ16 h17
        have hXτ16 := h17.1
        have hRτ16 := h17.2.2
        refine s_if_ne (tgt := 87) C dX1_readTest_82 (by decide) (fun q18 => ?_) (fun q18 => ?_)
        · refine s_aload_n C dX1_readTest_87 rfl ?_
          refine s_bipush C dX1_readTest_88 (by decide) (fun z19 tz19 => ?_)
          refine s_callVV (st := []) C (c_X1_add l ad τ16 z19 hXτ16 (pv_op (by omega))) cv_X1_53 y68 rfl rfl rfl ⟨by decide, by decide⟩ (Nat.le_of_ble_eq_true rfl) dX1_readTest_90 ?_
          intro τ21 h22
          have hXτ21 := h22.1
          have hRτ21 := h22.2.2
          refine s_iconst C dX1_readTest_93 (by decide) (fun z23 tz23 => ?_)
          exact s_zret C (by omega) X dX1_readTest_94 ⟨hXτ21, (Fr.tr (Fr.tr (Fr.tr Fr.rf (Fr.mo h10.2.1 (by decide) (by decide))) (Fr.mo h17.2.1 (by decide) (by decide))) (Fr.mo h22.2.1 (by decide) (by decide))), by omega⟩
        · refine s_iconst C dX1_readTest_85 (by decide) (fun z24 tz24 => ?_)
          exact s_zret C (by omega) X dX1_readTest_86 ⟨hXτ16, (Fr.tr (Fr.tr Fr.rf (Fr.mo h10.2.1 (by decide) (by decide))) (Fr.mo h17.2.1 (by decide) (by decide))), by omega⟩
      · refine s_aload_n C dX1_readTest_47 rfl ?_
        refine s_iload_n C dX1_readTest_48 rfl ?_
        refine s_iconst C dX1_readTest_49 (by decide) (fun z25 tz25 => ?_)
        refine s_iadd C dX1_readTest_50 (by omega) (fun z26 tz26 => ?_)
        refine s_callVI (st := []) C (c_X1_readCondition_5 l ad τ9 z26 hXτ9 (by omega)) cv_X1_68 y68 rfl rfl rfl ⟨by decide, by decide⟩ (Nat.le_of_ble_eq_true rfl) dX1_readTest_51 ?_
        intro r27 τ28 h29
        have hXτ28 := h29.1
        have hRτ28 := h29.2.2
        refine s_if_eq (tgt := 73) C dX1_readTest_54 (by decide) (fun q30 => ?_) (fun q30 => ?_)
        · refine s_iconst C dX1_readTest_73 (by decide) (fun z31 tz31 => ?_)
          exact s_zret C (by omega) X dX1_readTest_74 ⟨hXτ28, (Fr.tr (Fr.tr Fr.rf (Fr.mo h10.2.1 (by decide) (by decide))) (Fr.mo h29.2.1 (by decide) (by decide))), by omega⟩
        · refine s_aload_n C dX1_readTest_57 rfl ?_
          refine s_getr (k := 0) (j := 66) C y68 fw_X1_19 rfl dX1_readTest_58 ?_
          refine s_bipush C dX1_readTest_61 (by decide) (fun z32 tz32 => ?_)
          refine s_callVI (st := []) C (c_X8_accept l ad τ28 z32 hXτ28 ) cv_X1_50 y66 rfl rfl rfl ⟨by decide, by decide⟩ (Nat.le_of_ble_eq_true rfl) dX1_readTest_63 ?_
          intro r33 τ34 h35
          have hXτ34 := h35.1
          have hRτ34 := h35.2.2
          refine s_if_eq (tgt := 73) C dX1_readTest_66 (by decide) (fun q36 => ?_) (fun q36 => ?_)
          · refine s_iconst C dX1_readTest_73 (by decide) (fun z37 tz37 => ?_)
            exact s_zret C (by omega) X dX1_readTest_74 ⟨hXτ34, (Fr.tr (Fr.tr (Fr.tr Fr.rf (Fr.mo h10.2.1 (by decide) (by decide))) (Fr.mo h29.2.1 (by decide) (by decide))) (Fr.mo h35.2.1 (by decide) (by decide))), by omega⟩
          · refine s_iconst C dX1_readTest_69 (by decide) (fun z38 tz38 => ?_)
            refine s_goto (tgt := 74) C dX1_readTest_70 (by decide) ?_
            exact s_zret C (by omega) X dX1_readTest_74 ⟨hXτ34, (Fr.tr (Fr.tr (Fr.tr Fr.rf (Fr.mo h10.2.1 (by decide) (by decide))) (Fr.mo h29.2.1 (by decide) (by decide))) (Fr.mo h35.2.1 (by decide) (by decide))), by omega⟩
    · omega
  · refine s_iload_n C dX1_readTest_14 rfl ?_
    refine s_bipush C dX1_readTest_15 (by decide) (fun z39 tz39 => ?_)
    refine s_icmp_eq (tgt := 25) C dX1_readTest_17 (by decide) (fun q40 => ?_) (fun q40 => ?_)
    · refine s_iload_n C dX1_readTest_25 rfl ?_
      refine s_iconst C dX1_readTest_26 (by decide) (fun z41 tz41 => ?_)
      refine s_icmp_lt (tgt := 32) C dX1_readTest_27 (by decide) (fun q42 => ?_) (fun q42 => ?_)
      · refine s_aload_n C dX1_readTest_32 rfl ?_
        refine s_getr (k := 0) (j := 66) C y68 fw_X1_19 rfl dX1_readTest_33 ?_
        refine s_iload_n C dX1_readTest_36 rfl ?_
        refine s_callVI (st := []) C (c_X8_accept l ad σ r1 hX ) cv_X1_50 y66 rfl rfl rfl ⟨by decide, by decide⟩ (Nat.le_of_ble_eq_true rfl) dX1_readTest_37 ?_
        intro r43 τ44 h45
        have hXτ44 := h45.1
        have hRτ44 := h45.2.2
        refine s_pop C dX1_readTest_40 rfl ?_
        refine s_iload_n C dX1_readTest_41 rfl ?_
        refine s_bipush C dX1_readTest_42 (by decide) (fun z46 tz46 => ?_)
        refine s_icmp_ne (tgt := 75) C dX1_readTest_44 (by decide) (fun q47 => ?_) (fun q47 => ?_)
        · refine s_aload_n C dX1_readTest_75 rfl ?_
          refine s_iload_n C dX1_readTest_76 rfl ?_
          refine s_iconst C dX1_readTest_77 (by decide) (fun z48 tz48 => ?_)
          refine s_iadd C dX1_readTest_78 (by omega) (fun z49 tz49 => ?_)
          refine s_callVI (st := []) C (c_X1_readTest_5 l ad τ44 z49 hXτ44 (by omega)) cv_X1_57 y68 rfl rfl rfl ⟨by decide, by decide⟩ (Nat.le_of_ble_eq_true rfl) dX1_readTest_79 ?_
          intro r50 τ51 h52
          have hXτ51 := h52.1
          have hRτ51 := h52.2.2
          refine s_if_ne (tgt := 87) C dX1_readTest_82 (by decide) (fun q53 => ?_) (fun q53 => ?_)
          · refine s_aload_n C dX1_readTest_87 rfl ?_
            refine s_bipush C dX1_readTest_88 (by decide) (fun z54 tz54 => ?_)
            refine s_callVV (st := []) C (c_X1_add l ad τ51 z54 hXτ51 (pv_op (by omega))) cv_X1_53 y68 rfl rfl rfl ⟨by decide, by decide⟩ (Nat.le_of_ble_eq_true rfl) dX1_readTest_90 ?_
            intro τ56 h57
            have hXτ56 := h57.1
            have hRτ56 := h57.2.2
            refine s_iconst C dX1_readTest_93 (by decide) (fun z58 tz58 => ?_)
            exact s_zret C (by omega) X dX1_readTest_94 ⟨hXτ56, (Fr.tr (Fr.tr (Fr.tr Fr.rf (Fr.mo h45.2.1 (by decide) (by decide))) (Fr.mo h52.2.1 (by decide) (by decide))) (Fr.mo h57.2.1 (by decide) (by decide))), by omega⟩
          · refine s_iconst C dX1_readTest_85 (by decide) (fun z59 tz59 => ?_)
            exact s_zret C (by omega) X dX1_readTest_86 ⟨hXτ51, (Fr.tr (Fr.tr Fr.rf (Fr.mo h45.2.1 (by decide) (by decide))) (Fr.mo h52.2.1 (by decide) (by decide))), by omega⟩
        · refine s_aload_n C dX1_readTest_47 rfl ?_
          refine s_iload_n C dX1_readTest_48 rfl ?_
          refine s_iconst C dX1_readTest_49 (by decide) (fun z60 tz60 => ?_)
          refine s_iadd C dX1_readTest_50 (by omega) (fun z61 tz61 => ?_)
          refine s_callVI (st := []) C (c_X1_readCondition_5 l ad τ44 z61 hXτ44 (by omega)) cv_X1_68 y68 rfl rfl rfl ⟨by decide, by decide⟩ (Nat.le_of_ble_eq_true rfl) dX1_readTest_51 ?_
          intro r62 τ63 h64
          have hXτ63 := h64.1
          have hRτ63 := h64.2.2
          refine s_if_eq (tgt := 73) C dX1_readTest_54 (by decide) (fun q65 => ?_) (fun q65 => ?_)
          · refine s_iconst C dX1_readTest_73 (by decide) (fun z66 tz66 => ?_)
            exact s_zret C (by omega) X dX1_readTest_74 ⟨hXτ63, (Fr.tr (Fr.tr Fr.rf (Fr.mo h45.2.1 (by decide) (by decide))) (Fr.mo h64.2.1 (by decide) (by decide))), by omega⟩
          · refine s_aload_n C dX1_readTest_57 rfl ?_
            refine s_getr (k := 0) (j := 66) C y68 fw_X1_19 rfl dX1_readTest_58 ?_
            refine s_bipush C dX1_readTest_61 (by decide) (fun z67 tz67 => ?_)
            refine s_callVI (st := []) C (c_X8_accept l ad τ63 z67 hXτ63 ) cv_X1_50 y66 rfl rfl rfl ⟨by decide, by decide⟩ (Nat.le_of_ble_eq_true rfl) dX1_readTest_63 ?_
            intro r68 τ69 h70
            have hXτ69 := h70.1
            have hRτ69 := h70.2.2
            refine s_if_eq (tgt := 73) C dX1_readTest_66 (by decide) (fun q71 => ?_) (fun q71 => ?_)
            · refine s_iconst C dX1_readTest_73 (by decide) (fun z72 tz72 => ?_)
              exact s_zret C (by omega) X dX1_readTest_74 ⟨hXτ69, (Fr.tr (Fr.tr (Fr.tr Fr.rf (Fr.mo h45.2.1 (by decide) (by decide))) (Fr.mo h64.2.1 (by decide) (by decide))) (Fr.mo h70.2.1 (by decide) (by decide))), by omega⟩
            · refine s_iconst C dX1_readTest_69 (by decide) (fun z73 tz73 => ?_)
              refine s_goto (tgt := 74) C dX1_readTest_70 (by decide) ?_
              exact s_zret C (by omega) X dX1_readTest_74 ⟨hXτ69, (Fr.tr (Fr.tr (Fr.tr Fr.rf (Fr.mo h45.2.1 (by decide) (by decide))) (Fr.mo h64.2.1 (by decide) (by decide))) (Fr.mo h70.2.1 (by decide) (by decide))), by omega⟩
      · omega
    · refine s_aload_n C dX1_readTest_20 rfl ?_
      refine s_callVI (st := []) C (c_X1_readComparison l ad σ  hX ) cv_X1_64 y68 rfl rfl rfl ⟨by decide, by decide⟩ (Nat.le_of_ble_eq_true rfl) dX1_readTest_21 ?_
      intro r74 τ75 h76
      have hXτ75 := h76.1
      have hRτ75 := h76.2.2
      exact s_zret C (by omega) X dX1_readTest_24 ⟨hXτ75, (Fr.tr Fr.rf (Fr.mo h76.2.1 (by decide) (by decide))), by omega⟩
set_option maxRecDepth 100000 in
theorem L_readAll_4 (l : Launch) (ad : Nat → Nat) (E : Ev) (σ : Sg) (d : Int32) (hd : d.toInt = 4) (C : Cx E l (rmk 8) 3 cX1_readAll RX1) (X : Rx E ad (some .boolean) (oI (fun r τ => IX τ.1 ∧ Fr [69] [(66, 1), (68, 2)] σ τ ∧ (r.toInt = 0 ∨ r.toInt = 1))))  : ∀ (n : Nat) (τ : Sg) (z : Int32), (Fr [69] [(66, 1), (68, 2)] σ τ) → (IX τ.1) → (0 ≤ z.toInt) → (60 - z.toInt).toNat < n → WP E ad 12 [some (.ref (ad 68)), some (.int d), some (.int z)] [] τ := by
  intro n
  induction n with
  | zero => intro τ z kF hXτ h0 hm9; exact absurd hm9 (Nat.not_lt_zero _)
  | succ n ih =>
    intro τ z kF hXτ h0 hm9
    refine s_iload_n C dX1_readAll_12 rfl ?_
    refine s_bipush C dX1_readAll_13 (by decide) (fun z1 tz1 => ?_)
    refine s_icmp_ge (tgt := 52) C dX1_readAll_15 (by decide) (fun q2 => ?_) (fun q2 => ?_)
    · refine s_iconst C dX1_readAll_52 (by decide) (fun z3 tz3 => ?_)
      exact s_zret C (by omega) X dX1_readAll_53 ⟨hXτ, (Fr.tr Fr.rf (Fr.mo kF (by decide) (by decide))), by omega⟩
    · refine s_aload_n C dX1_readAll_18 rfl ?_
      refine s_getr (k := 0) (j := 66) C y68 fw_X1_19 rfl dX1_readAll_19 ?_
      refine s_bipush C dX1_readAll_22 (by decide) (fun z4 tz4 => ?_)
      refine s_callVI (st := []) C (c_X8_accept l ad τ z4 hXτ ) cv_X1_50 y66 rfl rfl rfl ⟨by decide, by decide⟩ (Nat.le_of_ble_eq_true rfl) dX1_readAll_24 ?_
      intro r5 τ6 h7
      have hXτ6 := h7.1
      have hRτ6 := h7.2.2
      refine s_if_eq (tgt := 52) C dX1_readAll_27 (by decide) (fun q8 => ?_) (fun q8 => ?_)
      · refine s_iconst C dX1_readAll_52 (by decide) (fun z9 tz9 => ?_)
        exact s_zret C (by omega) X dX1_readAll_53 ⟨hXτ6, (Fr.tr (Fr.tr Fr.rf (Fr.mo kF (by decide) (by decide))) (Fr.mo h7.2.1 (by decide) (by decide))), by omega⟩
      · refine s_aload_n C dX1_readAll_30 rfl ?_
        refine s_iload_n C dX1_readAll_31 rfl ?_
        refine s_callVI (st := []) C (c_X1_readTest_4 l ad τ6 d hXτ6 (by omega)) cv_X1_57 y68 rfl rfl rfl ⟨by decide, by decide⟩ (Nat.le_of_ble_eq_true rfl) dX1_readAll_32 ?_
        intro r10 τ11 h12
        have hXτ11 := h12.1
        have hRτ11 := h12.2.2
        refine s_if_ne (tgt := 40) C dX1_readAll_35 (by decide) (fun q13 => ?_) (fun q13 => ?_)
        · refine s_aload_n C dX1_readAll_40 rfl ?_
          refine s_bipush C dX1_readAll_41 (by decide) (fun z14 tz14 => ?_)
          refine s_callVV (st := []) C (c_X1_add l ad τ11 z14 hXτ11 (pv_op (by omega))) cv_X1_53 y68 rfl rfl rfl ⟨by decide, by decide⟩ (Nat.le_of_ble_eq_true rfl) dX1_readAll_43 ?_
          intro τ16 h17
          have hXτ16 := h17.1
          have hRτ16 := h17.2.2
          refine s_iinc C dX1_readAll_46 rfl (by decide) rfl (by decide) (by omega) (fun z18 tz18 => ?_)
          show WP E ad 49 [some (.ref (ad 68)), some (.int d), some (.int z18)] [] τ16
          refine s_goto (tgt := 12) C dX1_readAll_49 (by decide) ?_
          exact ih τ16 z18 (Fr.tr (Fr.tr (Fr.tr (Fr.tr Fr.rf (Fr.mo kF (by decide) (by decide))) (Fr.mo h7.2.1 (by decide) (by decide))) (Fr.mo h12.2.1 (by decide) (by decide))) (Fr.mo h17.2.1 (by decide) (by decide))) hXτ16 (by omega) (by omega)
        · refine s_iconst C dX1_readAll_38 (by decide) (fun z19 tz19 => ?_)
          exact s_zret C (by omega) X dX1_readAll_39 ⟨hXτ11, (Fr.tr (Fr.tr (Fr.tr Fr.rf (Fr.mo kF (by decide) (by decide))) (Fr.mo h7.2.1 (by decide) (by decide))) (Fr.mo h12.2.1 (by decide) (by decide))), by omega⟩
set_option maxRecDepth 100000 in
theorem c_X1_readAll_4 (l : Launch) (ad : Nat → Nat) (σ : Sg) (d : Int32) (hX : IX σ.1) (hd : d.toInt = 4) : Mt l yX1_readAll cX1_readAll 3 (some .boolean) 8 ad σ [.ref (ad 68), .int d] (oI (fun r τ => IX τ.1 ∧ Fr [69] [(66, 1), (68, 2)] σ τ ∧ (r.toInt = 0 ∨ r.toInt = 1))) := by
  refine Mt_intro (by decide +kernel) (by simp [lg_sl, Value.category]) (fun E C X => ?_)
  show WP E ad 0 [some (.ref (ad 68)), some (.int d), none] [] σ
  refine s_aload_n C dX1_readAll_0 rfl ?_
  refine s_iload_n C dX1_readAll_1 rfl ?_
  refine s_callVI (st := []) C (c_X1_readTest_4 l ad σ d hX (by omega)) cv_X1_57 y68 rfl rfl rfl ⟨by decide, by decide⟩ (Nat.le_of_ble_eq_true rfl) dX1_readAll_2 ?_
  intro r1 τ2 h3
  have hXτ2 := h3.1
  have hRτ2 := h3.2.2
  refine s_if_ne (tgt := 10) C dX1_readAll_5 (by decide) (fun q4 => ?_) (fun q4 => ?_)
  · refine s_iconst C dX1_readAll_10 (by decide) (fun z5 tz5 => ?_)
    refine s_istore_n C dX1_readAll_11 (by decide) (Nat.le_of_ble_eq_true rfl) rfl ?_
    show WP E ad 12 [some (.ref (ad 68)), some (.int d), some (.int z5)] [] τ2
    exact L_readAll_4 l ad E σ d hd C X 100 τ2 z5 (Fr.tr Fr.rf (Fr.mo h3.2.1 (by decide) (by decide))) hXτ2 (by omega) (by omega)
  · refine s_iconst C dX1_readAll_8 (by decide) (fun z6 tz6 => ?_)
    exact s_zret C (by omega) X dX1_readAll_9 ⟨hXτ2, (Fr.tr Fr.rf (Fr.mo h3.2.1 (by decide) (by decide))), by omega⟩
set_option maxRecDepth 100000 in
theorem L_readCondition_4 (l : Launch) (ad : Nat → Nat) (E : Ev) (σ : Sg) (d : Int32) (hd : d.toInt = 4) (C : Cx E l (rmk 9) 3 cX1_readCondition RX1) (X : Rx E ad (some .boolean) (oI (fun r τ => IX τ.1 ∧ Fr [69] [(66, 1), (68, 2)] σ τ ∧ (r.toInt = 0 ∨ r.toInt = 1))))  : ∀ (n : Nat) (τ : Sg) (z : Int32), (Fr [69] [(66, 1), (68, 2)] σ τ) → (IX τ.1) → (0 ≤ z.toInt) → (60 - z.toInt).toNat < n → WP E ad 12 [some (.ref (ad 68)), some (.int d), some (.int z)] [] τ := by
  intro n
  induction n with
  | zero => intro τ z kF hXτ h0 hm9; exact absurd hm9 (Nat.not_lt_zero _)
  | succ n ih =>
    intro τ z kF hXτ h0 hm9
    refine s_iload_n C dX1_readCondition_12 rfl ?_
    refine s_bipush C dX1_readCondition_13 (by decide) (fun z1 tz1 => ?_)
    refine s_icmp_ge (tgt := 52) C dX1_readCondition_15 (by decide) (fun q2 => ?_) (fun q2 => ?_)
    · refine s_iconst C dX1_readCondition_52 (by decide) (fun z3 tz3 => ?_)
      exact s_zret C (by omega) X dX1_readCondition_53 ⟨hXτ, (Fr.tr Fr.rf (Fr.mo kF (by decide) (by decide))), by omega⟩
    · refine s_aload_n C dX1_readCondition_18 rfl ?_
      refine s_getr (k := 0) (j := 66) C y68 fw_X1_19 rfl dX1_readCondition_19 ?_
      refine s_bipush C dX1_readCondition_22 (by decide) (fun z4 tz4 => ?_)
      refine s_callVI (st := []) C (c_X8_accept l ad τ z4 hXτ ) cv_X1_50 y66 rfl rfl rfl ⟨by decide, by decide⟩ (Nat.le_of_ble_eq_true rfl) dX1_readCondition_24 ?_
      intro r5 τ6 h7
      have hXτ6 := h7.1
      have hRτ6 := h7.2.2
      refine s_if_eq (tgt := 52) C dX1_readCondition_27 (by decide) (fun q8 => ?_) (fun q8 => ?_)
      · refine s_iconst C dX1_readCondition_52 (by decide) (fun z9 tz9 => ?_)
        exact s_zret C (by omega) X dX1_readCondition_53 ⟨hXτ6, (Fr.tr (Fr.tr Fr.rf (Fr.mo kF (by decide) (by decide))) (Fr.mo h7.2.1 (by decide) (by decide))), by omega⟩
      · refine s_aload_n C dX1_readCondition_30 rfl ?_
        refine s_iload_n C dX1_readCondition_31 rfl ?_
        refine s_callVI (st := []) C (c_X1_readAll_4 l ad τ6 d hXτ6 (by omega)) cv_X1_46 y68 rfl rfl rfl ⟨by decide, by decide⟩ (Nat.le_of_ble_eq_true rfl) dX1_readCondition_32 ?_
        intro r10 τ11 h12
        have hXτ11 := h12.1
        have hRτ11 := h12.2.2
        refine s_if_ne (tgt := 40) C dX1_readCondition_35 (by decide) (fun q13 => ?_) (fun q13 => ?_)
        · refine s_aload_n C dX1_readCondition_40 rfl ?_
          refine s_bipush C dX1_readCondition_41 (by decide) (fun z14 tz14 => ?_)
          refine s_callVV (st := []) C (c_X1_add l ad τ11 z14 hXτ11 (pv_op (by omega))) cv_X1_53 y68 rfl rfl rfl ⟨by decide, by decide⟩ (Nat.le_of_ble_eq_true rfl) dX1_readCondition_43 ?_
          intro τ16 h17
          have hXτ16 := h17.1
          have hRτ16 := h17.2.2
          refine s_iinc C dX1_readCondition_46 rfl (by decide) rfl (by decide) (by omega) (fun z18 tz18 => ?_)
          show WP E ad 49 [some (.ref (ad 68)), some (.int d), some (.int z18)] [] τ16
          refine s_goto (tgt := 12) C dX1_readCondition_49 (by decide) ?_
          exact ih τ16 z18 (Fr.tr (Fr.tr (Fr.tr (Fr.tr Fr.rf (Fr.mo kF (by decide) (by decide))) (Fr.mo h7.2.1 (by decide) (by decide))) (Fr.mo h12.2.1 (by decide) (by decide))) (Fr.mo h17.2.1 (by decide) (by decide))) hXτ16 (by omega) (by omega)
        · refine s_iconst C dX1_readCondition_38 (by decide) (fun z19 tz19 => ?_)
          exact s_zret C (by omega) X dX1_readCondition_39 ⟨hXτ11, (Fr.tr (Fr.tr (Fr.tr Fr.rf (Fr.mo kF (by decide) (by decide))) (Fr.mo h7.2.1 (by decide) (by decide))) (Fr.mo h12.2.1 (by decide) (by decide))), by omega⟩
set_option maxRecDepth 100000 in
theorem c_X1_readCondition_4 (l : Launch) (ad : Nat → Nat) (σ : Sg) (d : Int32) (hX : IX σ.1) (hd : d.toInt = 4) : Mt l yX1_readCondition cX1_readCondition 3 (some .boolean) 9 ad σ [.ref (ad 68), .int d] (oI (fun r τ => IX τ.1 ∧ Fr [69] [(66, 1), (68, 2)] σ τ ∧ (r.toInt = 0 ∨ r.toInt = 1))) := by
  refine Mt_intro (by decide +kernel) (by simp [lg_sl, Value.category]) (fun E C X => ?_)
  show WP E ad 0 [some (.ref (ad 68)), some (.int d), none] [] σ
  refine s_aload_n C dX1_readCondition_0 rfl ?_
  refine s_iload_n C dX1_readCondition_1 rfl ?_
  refine s_callVI (st := []) C (c_X1_readAll_4 l ad σ d hX (by omega)) cv_X1_46 y68 rfl rfl rfl ⟨by decide, by decide⟩ (Nat.le_of_ble_eq_true rfl) dX1_readCondition_2 ?_
  intro r1 τ2 h3
  have hXτ2 := h3.1
  have hRτ2 := h3.2.2
  refine s_if_ne (tgt := 10) C dX1_readCondition_5 (by decide) (fun q4 => ?_) (fun q4 => ?_)
  · refine s_iconst C dX1_readCondition_10 (by decide) (fun z5 tz5 => ?_)
    refine s_istore_n C dX1_readCondition_11 (by decide) (Nat.le_of_ble_eq_true rfl) rfl ?_
    show WP E ad 12 [some (.ref (ad 68)), some (.int d), some (.int z5)] [] τ2
    exact L_readCondition_4 l ad E σ d hd C X 100 τ2 z5 (Fr.tr Fr.rf (Fr.mo h3.2.1 (by decide) (by decide))) hXτ2 (by omega) (by omega)
  · refine s_iconst C dX1_readCondition_8 (by decide) (fun z6 tz6 => ?_)
    exact s_zret C (by omega) X dX1_readCondition_9 ⟨hXτ2, (Fr.tr Fr.rf (Fr.mo h3.2.1 (by decide) (by decide))), by omega⟩
set_option maxRecDepth 100000 in
theorem c_X1_readTest_3 (l : Launch) (ad : Nat → Nat) (σ : Sg) (d : Int32) (hX : IX σ.1) (hd : d.toInt = 3) : Mt l yX1_readTest cX1_readTest 3 (some .boolean) 10 ad σ [.ref (ad 68), .int d] (oI (fun r τ => IX τ.1 ∧ Fr [69] [(66, 1), (68, 2)] σ τ ∧ (r.toInt = 0 ∨ r.toInt = 1))) := by
  refine Mt_intro (by decide +kernel) (by simp [lg_sl, Value.category]) (fun E C X => ?_)
  show WP E ad 0 [some (.ref (ad 68)), some (.int d), none] [] σ
  refine s_aload_n C dX1_readTest_0 rfl ?_
  refine s_getr (k := 0) (j := 66) C y68 fw_X1_19 rfl dX1_readTest_1 ?_
  refine s_callVI (st := []) C (c_X8_peek l ad σ  hX) cv_X1_60 y66 rfl rfl rfl ⟨by decide, by decide⟩ (Nat.le_of_ble_eq_true rfl) dX1_readTest_4 ?_
  intro r1 τ2 h3
  obtain ⟨eh3, h3⟩ := h3; replace eh3 := eh3.symm; subst eh3
  refine s_istore_n C dX1_readTest_7 (by decide) (Nat.le_of_ble_eq_true rfl) rfl ?_
  show WP E ad 8 [some (.ref (ad 68)), some (.int d), some (.int r1)] [] σ
  refine s_iload_n C dX1_readTest_8 rfl ?_
  refine s_bipush C dX1_readTest_9 (by decide) (fun z4 tz4 => ?_)
  refine s_icmp_eq (tgt := 25) C dX1_readTest_11 (by decide) (fun q5 => ?_) (fun q5 => ?_)
  · refine s_iload_n C dX1_readTest_25 rfl ?_
    refine s_iconst C dX1_readTest_26 (by decide) (fun z6 tz6 => ?_)
    refine s_icmp_lt (tgt := 32) C dX1_readTest_27 (by decide) (fun q7 => ?_) (fun q7 => ?_)
    · refine s_aload_n C dX1_readTest_32 rfl ?_
      refine s_getr (k := 0) (j := 66) C y68 fw_X1_19 rfl dX1_readTest_33 ?_
      refine s_iload_n C dX1_readTest_36 rfl ?_
      refine s_callVI (st := []) C (c_X8_accept l ad σ r1 hX ) cv_X1_50 y66 rfl rfl rfl ⟨by decide, by decide⟩ (Nat.le_of_ble_eq_true rfl) dX1_readTest_37 ?_
      intro r8 τ9 h10
      have hXτ9 := h10.1
      have hRτ9 := h10.2.2
      refine s_pop C dX1_readTest_40 rfl ?_
      refine s_iload_n C dX1_readTest_41 rfl ?_
      refine s_bipush C dX1_readTest_42 (by decide) (fun z11 tz11 => ?_)
      refine s_icmp_ne (tgt := 75) C dX1_readTest_44 (by decide) (fun q12 => ?_) (fun q12 => ?_)
      · refine s_aload_n C dX1_readTest_75 rfl ?_
        refine s_iload_n C dX1_readTest_76 rfl ?_
        refine s_iconst C dX1_readTest_77 (by decide) (fun z13 tz13 => ?_)
        refine s_iadd C dX1_readTest_78 (by omega) (fun z14 tz14 => ?_)
        refine s_callVI (st := []) C (c_X1_readTest_4 l ad τ9 z14 hXτ9 (by omega)) cv_X1_57 y68 rfl rfl rfl ⟨by decide, by decide⟩ (Nat.le_of_ble_eq_true rfl) dX1_readTest_79 ?_
        intro r15 τ16 h17
        have hXτ16 := h17.1
        have hRτ16 := h17.2.2
        refine s_if_ne (tgt := 87) C dX1_readTest_82 (by decide) (fun q18 => ?_) (fun q18 => ?_)
        · refine s_aload_n C dX1_readTest_87 rfl ?_
          refine s_bipush C dX1_readTest_88 (by decide) (fun z19 tz19 => ?_)
          refine s_callVV (st := []) C (c_X1_add l ad τ16 z19 hXτ16 (pv_op (by omega))) cv_X1_53 y68 rfl rfl rfl ⟨by decide, by decide⟩ (Nat.le_of_ble_eq_true rfl) dX1_readTest_90 ?_
          intro τ21 h22
          have hXτ21 := h22.1
          have hRτ21 := h22.2.2
          refine s_iconst C dX1_readTest_93 (by decide) (fun z23 tz23 => ?_)
          exact s_zret C (by omega) X dX1_readTest_94 ⟨hXτ21, (Fr.tr (Fr.tr (Fr.tr Fr.rf (Fr.mo h10.2.1 (by decide) (by decide))) (Fr.mo h17.2.1 (by decide) (by decide))) (Fr.mo h22.2.1 (by decide) (by decide))), by omega⟩
        · refine s_iconst C dX1_readTest_85 (by decide) (fun z24 tz24 => ?_)
          exact s_zret C (by omega) X dX1_readTest_86 ⟨hXτ16, (Fr.tr (Fr.tr Fr.rf (Fr.mo h10.2.1 (by decide) (by decide))) (Fr.mo h17.2.1 (by decide) (by decide))), by omega⟩
      · refine s_aload_n C dX1_readTest_47 rfl ?_
        refine s_iload_n C dX1_readTest_48 rfl ?_
        refine s_iconst C dX1_readTest_49 (by decide) (fun z25 tz25 => ?_)
        refine s_iadd C dX1_readTest_50 (by omega) (fun z26 tz26 => ?_)
        refine s_callVI (st := []) C (c_X1_readCondition_4 l ad τ9 z26 hXτ9 (by omega)) cv_X1_68 y68 rfl rfl rfl ⟨by decide, by decide⟩ (Nat.le_of_ble_eq_true rfl) dX1_readTest_51 ?_
        intro r27 τ28 h29
        have hXτ28 := h29.1
        have hRτ28 := h29.2.2
        refine s_if_eq (tgt := 73) C dX1_readTest_54 (by decide) (fun q30 => ?_) (fun q30 => ?_)
        · refine s_iconst C dX1_readTest_73 (by decide) (fun z31 tz31 => ?_)
          exact s_zret C (by omega) X dX1_readTest_74 ⟨hXτ28, (Fr.tr (Fr.tr Fr.rf (Fr.mo h10.2.1 (by decide) (by decide))) (Fr.mo h29.2.1 (by decide) (by decide))), by omega⟩
        · refine s_aload_n C dX1_readTest_57 rfl ?_
          refine s_getr (k := 0) (j := 66) C y68 fw_X1_19 rfl dX1_readTest_58 ?_
          refine s_bipush C dX1_readTest_61 (by decide) (fun z32 tz32 => ?_)
          refine s_callVI (st := []) C (c_X8_accept l ad τ28 z32 hXτ28 ) cv_X1_50 y66 rfl rfl rfl ⟨by decide, by decide⟩ (Nat.le_of_ble_eq_true rfl) dX1_readTest_63 ?_
          intro r33 τ34 h35
          have hXτ34 := h35.1
          have hRτ34 := h35.2.2
          refine s_if_eq (tgt := 73) C dX1_readTest_66 (by decide) (fun q36 => ?_) (fun q36 => ?_)
          · refine s_iconst C dX1_readTest_73 (by decide) (fun z37 tz37 => ?_)
            exact s_zret C (by omega) X dX1_readTest_74 ⟨hXτ34, (Fr.tr (Fr.tr (Fr.tr Fr.rf (Fr.mo h10.2.1 (by decide) (by decide))) (Fr.mo h29.2.1 (by decide) (by decide))) (Fr.mo h35.2.1 (by decide) (by decide))), by omega⟩
          · refine s_iconst C dX1_readTest_69 (by decide) (fun z38 tz38 => ?_)
            refine s_goto (tgt := 74) C dX1_readTest_70 (by decide) ?_
            exact s_zret C (by omega) X dX1_readTest_74 ⟨hXτ34, (Fr.tr (Fr.tr (Fr.tr Fr.rf (Fr.mo h10.2.1 (by decide) (by decide))) (Fr.mo h29.2.1 (by decide) (by decide))) (Fr.mo h35.2.1 (by decide) (by decide))), by omega⟩
    · omega
  · refine s_iload_n C dX1_readTest_14 rfl ?_
    refine s_bipush C dX1_readTest_15 (by decide) (fun z39 tz39 => ?_)
    refine s_icmp_eq (tgt := 25) C dX1_readTest_17 (by decide) (fun q40 => ?_) (fun q40 => ?_)
    · refine s_iload_n C dX1_readTest_25 rfl ?_
      refine s_iconst C dX1_readTest_26 (by decide) (fun z41 tz41 => ?_)
      refine s_icmp_lt (tgt := 32) C dX1_readTest_27 (by decide) (fun q42 => ?_) (fun q42 => ?_)
      · refine s_aload_n C dX1_readTest_32 rfl ?_
        refine s_getr (k := 0) (j := 66) C y68 fw_X1_19 rfl dX1_readTest_33 ?_
        refine s_iload_n C dX1_readTest_36 rfl ?_
        refine s_callVI (st := []) C (c_X8_accept l ad σ r1 hX ) cv_X1_50 y66 rfl rfl rfl ⟨by decide, by decide⟩ (Nat.le_of_ble_eq_true rfl) dX1_readTest_37 ?_
        intro r43 τ44 h45
        have hXτ44 := h45.1
        have hRτ44 := h45.2.2
        refine s_pop C dX1_readTest_40 rfl ?_
        refine s_iload_n C dX1_readTest_41 rfl ?_
        refine s_bipush C dX1_readTest_42 (by decide) (fun z46 tz46 => ?_)
        refine s_icmp_ne (tgt := 75) C dX1_readTest_44 (by decide) (fun q47 => ?_) (fun q47 => ?_)
        · refine s_aload_n C dX1_readTest_75 rfl ?_
          refine s_iload_n C dX1_readTest_76 rfl ?_
          refine s_iconst C dX1_readTest_77 (by decide) (fun z48 tz48 => ?_)
          refine s_iadd C dX1_readTest_78 (by omega) (fun z49 tz49 => ?_)
          refine s_callVI (st := []) C (c_X1_readTest_4 l ad τ44 z49 hXτ44 (by omega)) cv_X1_57 y68 rfl rfl rfl ⟨by decide, by decide⟩ (Nat.le_of_ble_eq_true rfl) dX1_readTest_79 ?_
          intro r50 τ51 h52
          have hXτ51 := h52.1
          have hRτ51 := h52.2.2
          refine s_if_ne (tgt := 87) C dX1_readTest_82 (by decide) (fun q53 => ?_) (fun q53 => ?_)
          · refine s_aload_n C dX1_readTest_87 rfl ?_
            refine s_bipush C dX1_readTest_88 (by decide) (fun z54 tz54 => ?_)
            refine s_callVV (st := []) C (c_X1_add l ad τ51 z54 hXτ51 (pv_op (by omega))) cv_X1_53 y68 rfl rfl rfl ⟨by decide, by decide⟩ (Nat.le_of_ble_eq_true rfl) dX1_readTest_90 ?_
            intro τ56 h57
            have hXτ56 := h57.1
            have hRτ56 := h57.2.2
            refine s_iconst C dX1_readTest_93 (by decide) (fun z58 tz58 => ?_)
            exact s_zret C (by omega) X dX1_readTest_94 ⟨hXτ56, (Fr.tr (Fr.tr (Fr.tr Fr.rf (Fr.mo h45.2.1 (by decide) (by decide))) (Fr.mo h52.2.1 (by decide) (by decide))) (Fr.mo h57.2.1 (by decide) (by decide))), by omega⟩
          · refine s_iconst C dX1_readTest_85 (by decide) (fun z59 tz59 => ?_)
            exact s_zret C (by omega) X dX1_readTest_86 ⟨hXτ51, (Fr.tr (Fr.tr Fr.rf (Fr.mo h45.2.1 (by decide) (by decide))) (Fr.mo h52.2.1 (by decide) (by decide))), by omega⟩
        · refine s_aload_n C dX1_readTest_47 rfl ?_
          refine s_iload_n C dX1_readTest_48 rfl ?_
          refine s_iconst C dX1_readTest_49 (by decide) (fun z60 tz60 => ?_)
          refine s_iadd C dX1_readTest_50 (by omega) (fun z61 tz61 => ?_)
          refine s_callVI (st := []) C (c_X1_readCondition_4 l ad τ44 z61 hXτ44 (by omega)) cv_X1_68 y68 rfl rfl rfl ⟨by decide, by decide⟩ (Nat.le_of_ble_eq_true rfl) dX1_readTest_51 ?_
          intro r62 τ63 h64
          have hXτ63 := h64.1
          have hRτ63 := h64.2.2
          refine s_if_eq (tgt := 73) C dX1_readTest_54 (by decide) (fun q65 => ?_) (fun q65 => ?_)
          · refine s_iconst C dX1_readTest_73 (by decide) (fun z66 tz66 => ?_)
            exact s_zret C (by omega) X dX1_readTest_74 ⟨hXτ63, (Fr.tr (Fr.tr Fr.rf (Fr.mo h45.2.1 (by decide) (by decide))) (Fr.mo h64.2.1 (by decide) (by decide))), by omega⟩
          · refine s_aload_n C dX1_readTest_57 rfl ?_
            refine s_getr (k := 0) (j := 66) C y68 fw_X1_19 rfl dX1_readTest_58 ?_
            refine s_bipush C dX1_readTest_61 (by decide) (fun z67 tz67 => ?_)
            refine s_callVI (st := []) C (c_X8_accept l ad τ63 z67 hXτ63 ) cv_X1_50 y66 rfl rfl rfl ⟨by decide, by decide⟩ (Nat.le_of_ble_eq_true rfl) dX1_readTest_63 ?_
            intro r68 τ69 h70
            have hXτ69 := h70.1
            have hRτ69 := h70.2.2
            refine s_if_eq (tgt := 73) C dX1_readTest_66 (by decide) (fun q71 => ?_) (fun q71 => ?_)
            · refine s_iconst C dX1_readTest_73 (by decide) (fun z72 tz72 => ?_)
              exact s_zret C (by omega) X dX1_readTest_74 ⟨hXτ69, (Fr.tr (Fr.tr (Fr.tr Fr.rf (Fr.mo h45.2.1 (by decide) (by decide))) (Fr.mo h64.2.1 (by decide) (by decide))) (Fr.mo h70.2.1 (by decide) (by decide))), by omega⟩
            · refine s_iconst C dX1_readTest_69 (by decide) (fun z73 tz73 => ?_)
              refine s_goto (tgt := 74) C dX1_readTest_70 (by decide) ?_
              exact s_zret C (by omega) X dX1_readTest_74 ⟨hXτ69, (Fr.tr (Fr.tr (Fr.tr Fr.rf (Fr.mo h45.2.1 (by decide) (by decide))) (Fr.mo h64.2.1 (by decide) (by decide))) (Fr.mo h70.2.1 (by decide) (by decide))), by omega⟩
      · omega
    · refine s_aload_n C dX1_readTest_20 rfl ?_
      refine s_callVI (st := []) C (c_X1_readComparison l ad σ  hX ) cv_X1_64 y68 rfl rfl rfl ⟨by decide, by decide⟩ (Nat.le_of_ble_eq_true rfl) dX1_readTest_21 ?_
      intro r74 τ75 h76
      have hXτ75 := h76.1
      have hRτ75 := h76.2.2
      exact s_zret C (by omega) X dX1_readTest_24 ⟨hXτ75, (Fr.tr Fr.rf (Fr.mo h76.2.1 (by decide) (by decide))), by omega⟩
set_option maxRecDepth 100000 in
theorem L_readAll_3 (l : Launch) (ad : Nat → Nat) (E : Ev) (σ : Sg) (d : Int32) (hd : d.toInt = 3) (C : Cx E l (rmk 11) 3 cX1_readAll RX1) (X : Rx E ad (some .boolean) (oI (fun r τ => IX τ.1 ∧ Fr [69] [(66, 1), (68, 2)] σ τ ∧ (r.toInt = 0 ∨ r.toInt = 1))))  : ∀ (n : Nat) (τ : Sg) (z : Int32), (Fr [69] [(66, 1), (68, 2)] σ τ) → (IX τ.1) → (0 ≤ z.toInt) → (60 - z.toInt).toNat < n → WP E ad 12 [some (.ref (ad 68)), some (.int d), some (.int z)] [] τ := by
  intro n
  induction n with
  | zero => intro τ z kF hXτ h0 hm9; exact absurd hm9 (Nat.not_lt_zero _)
  | succ n ih =>
    intro τ z kF hXτ h0 hm9
    refine s_iload_n C dX1_readAll_12 rfl ?_
    refine s_bipush C dX1_readAll_13 (by decide) (fun z1 tz1 => ?_)
    refine s_icmp_ge (tgt := 52) C dX1_readAll_15 (by decide) (fun q2 => ?_) (fun q2 => ?_)
    · refine s_iconst C dX1_readAll_52 (by decide) (fun z3 tz3 => ?_)
      exact s_zret C (by omega) X dX1_readAll_53 ⟨hXτ, (Fr.tr Fr.rf (Fr.mo kF (by decide) (by decide))), by omega⟩
    · refine s_aload_n C dX1_readAll_18 rfl ?_
      refine s_getr (k := 0) (j := 66) C y68 fw_X1_19 rfl dX1_readAll_19 ?_
      refine s_bipush C dX1_readAll_22 (by decide) (fun z4 tz4 => ?_)
      refine s_callVI (st := []) C (c_X8_accept l ad τ z4 hXτ ) cv_X1_50 y66 rfl rfl rfl ⟨by decide, by decide⟩ (Nat.le_of_ble_eq_true rfl) dX1_readAll_24 ?_
      intro r5 τ6 h7
      have hXτ6 := h7.1
      have hRτ6 := h7.2.2
      refine s_if_eq (tgt := 52) C dX1_readAll_27 (by decide) (fun q8 => ?_) (fun q8 => ?_)
      · refine s_iconst C dX1_readAll_52 (by decide) (fun z9 tz9 => ?_)
        exact s_zret C (by omega) X dX1_readAll_53 ⟨hXτ6, (Fr.tr (Fr.tr Fr.rf (Fr.mo kF (by decide) (by decide))) (Fr.mo h7.2.1 (by decide) (by decide))), by omega⟩
      · refine s_aload_n C dX1_readAll_30 rfl ?_
        refine s_iload_n C dX1_readAll_31 rfl ?_
        refine s_callVI (st := []) C (c_X1_readTest_3 l ad τ6 d hXτ6 (by omega)) cv_X1_57 y68 rfl rfl rfl ⟨by decide, by decide⟩ (Nat.le_of_ble_eq_true rfl) dX1_readAll_32 ?_
        intro r10 τ11 h12
        have hXτ11 := h12.1
        have hRτ11 := h12.2.2
        refine s_if_ne (tgt := 40) C dX1_readAll_35 (by decide) (fun q13 => ?_) (fun q13 => ?_)
        · refine s_aload_n C dX1_readAll_40 rfl ?_
          refine s_bipush C dX1_readAll_41 (by decide) (fun z14 tz14 => ?_)
          refine s_callVV (st := []) C (c_X1_add l ad τ11 z14 hXτ11 (pv_op (by omega))) cv_X1_53 y68 rfl rfl rfl ⟨by decide, by decide⟩ (Nat.le_of_ble_eq_true rfl) dX1_readAll_43 ?_
          intro τ16 h17
          have hXτ16 := h17.1
          have hRτ16 := h17.2.2
          refine s_iinc C dX1_readAll_46 rfl (by decide) rfl (by decide) (by omega) (fun z18 tz18 => ?_)
          show WP E ad 49 [some (.ref (ad 68)), some (.int d), some (.int z18)] [] τ16
          refine s_goto (tgt := 12) C dX1_readAll_49 (by decide) ?_
          exact ih τ16 z18 (Fr.tr (Fr.tr (Fr.tr (Fr.tr Fr.rf (Fr.mo kF (by decide) (by decide))) (Fr.mo h7.2.1 (by decide) (by decide))) (Fr.mo h12.2.1 (by decide) (by decide))) (Fr.mo h17.2.1 (by decide) (by decide))) hXτ16 (by omega) (by omega)
        · refine s_iconst C dX1_readAll_38 (by decide) (fun z19 tz19 => ?_)
          exact s_zret C (by omega) X dX1_readAll_39 ⟨hXτ11, (Fr.tr (Fr.tr (Fr.tr Fr.rf (Fr.mo kF (by decide) (by decide))) (Fr.mo h7.2.1 (by decide) (by decide))) (Fr.mo h12.2.1 (by decide) (by decide))), by omega⟩
set_option maxRecDepth 100000 in
theorem c_X1_readAll_3 (l : Launch) (ad : Nat → Nat) (σ : Sg) (d : Int32) (hX : IX σ.1) (hd : d.toInt = 3) : Mt l yX1_readAll cX1_readAll 3 (some .boolean) 11 ad σ [.ref (ad 68), .int d] (oI (fun r τ => IX τ.1 ∧ Fr [69] [(66, 1), (68, 2)] σ τ ∧ (r.toInt = 0 ∨ r.toInt = 1))) := by
  refine Mt_intro (by decide +kernel) (by simp [lg_sl, Value.category]) (fun E C X => ?_)
  show WP E ad 0 [some (.ref (ad 68)), some (.int d), none] [] σ
  refine s_aload_n C dX1_readAll_0 rfl ?_
  refine s_iload_n C dX1_readAll_1 rfl ?_
  refine s_callVI (st := []) C (c_X1_readTest_3 l ad σ d hX (by omega)) cv_X1_57 y68 rfl rfl rfl ⟨by decide, by decide⟩ (Nat.le_of_ble_eq_true rfl) dX1_readAll_2 ?_
  intro r1 τ2 h3
  have hXτ2 := h3.1
  have hRτ2 := h3.2.2
  refine s_if_ne (tgt := 10) C dX1_readAll_5 (by decide) (fun q4 => ?_) (fun q4 => ?_)
  · refine s_iconst C dX1_readAll_10 (by decide) (fun z5 tz5 => ?_)
    refine s_istore_n C dX1_readAll_11 (by decide) (Nat.le_of_ble_eq_true rfl) rfl ?_
    show WP E ad 12 [some (.ref (ad 68)), some (.int d), some (.int z5)] [] τ2
    exact L_readAll_3 l ad E σ d hd C X 100 τ2 z5 (Fr.tr Fr.rf (Fr.mo h3.2.1 (by decide) (by decide))) hXτ2 (by omega) (by omega)
  · refine s_iconst C dX1_readAll_8 (by decide) (fun z6 tz6 => ?_)
    exact s_zret C (by omega) X dX1_readAll_9 ⟨hXτ2, (Fr.tr Fr.rf (Fr.mo h3.2.1 (by decide) (by decide))), by omega⟩
set_option maxRecDepth 100000 in
theorem L_readCondition_3 (l : Launch) (ad : Nat → Nat) (E : Ev) (σ : Sg) (d : Int32) (hd : d.toInt = 3) (C : Cx E l (rmk 12) 3 cX1_readCondition RX1) (X : Rx E ad (some .boolean) (oI (fun r τ => IX τ.1 ∧ Fr [69] [(66, 1), (68, 2)] σ τ ∧ (r.toInt = 0 ∨ r.toInt = 1))))  : ∀ (n : Nat) (τ : Sg) (z : Int32), (Fr [69] [(66, 1), (68, 2)] σ τ) → (IX τ.1) → (0 ≤ z.toInt) → (60 - z.toInt).toNat < n → WP E ad 12 [some (.ref (ad 68)), some (.int d), some (.int z)] [] τ := by
  intro n
  induction n with
  | zero => intro τ z kF hXτ h0 hm9; exact absurd hm9 (Nat.not_lt_zero _)
  | succ n ih =>
    intro τ z kF hXτ h0 hm9
    refine s_iload_n C dX1_readCondition_12 rfl ?_
    refine s_bipush C dX1_readCondition_13 (by decide) (fun z1 tz1 => ?_)
    refine s_icmp_ge (tgt := 52) C dX1_readCondition_15 (by decide) (fun q2 => ?_) (fun q2 => ?_)
    · refine s_iconst C dX1_readCondition_52 (by decide) (fun z3 tz3 => ?_)
      exact s_zret C (by omega) X dX1_readCondition_53 ⟨hXτ, (Fr.tr Fr.rf (Fr.mo kF (by decide) (by decide))), by omega⟩
    · refine s_aload_n C dX1_readCondition_18 rfl ?_
      refine s_getr (k := 0) (j := 66) C y68 fw_X1_19 rfl dX1_readCondition_19 ?_
      refine s_bipush C dX1_readCondition_22 (by decide) (fun z4 tz4 => ?_)
      refine s_callVI (st := []) C (c_X8_accept l ad τ z4 hXτ ) cv_X1_50 y66 rfl rfl rfl ⟨by decide, by decide⟩ (Nat.le_of_ble_eq_true rfl) dX1_readCondition_24 ?_
      intro r5 τ6 h7
      have hXτ6 := h7.1
      have hRτ6 := h7.2.2
      refine s_if_eq (tgt := 52) C dX1_readCondition_27 (by decide) (fun q8 => ?_) (fun q8 => ?_)
      · refine s_iconst C dX1_readCondition_52 (by decide) (fun z9 tz9 => ?_)
        exact s_zret C (by omega) X dX1_readCondition_53 ⟨hXτ6, (Fr.tr (Fr.tr Fr.rf (Fr.mo kF (by decide) (by decide))) (Fr.mo h7.2.1 (by decide) (by decide))), by omega⟩
      · refine s_aload_n C dX1_readCondition_30 rfl ?_
        refine s_iload_n C dX1_readCondition_31 rfl ?_
        refine s_callVI (st := []) C (c_X1_readAll_3 l ad τ6 d hXτ6 (by omega)) cv_X1_46 y68 rfl rfl rfl ⟨by decide, by decide⟩ (Nat.le_of_ble_eq_true rfl) dX1_readCondition_32 ?_
        intro r10 τ11 h12
        have hXτ11 := h12.1
        have hRτ11 := h12.2.2
        refine s_if_ne (tgt := 40) C dX1_readCondition_35 (by decide) (fun q13 => ?_) (fun q13 => ?_)
        · refine s_aload_n C dX1_readCondition_40 rfl ?_
          refine s_bipush C dX1_readCondition_41 (by decide) (fun z14 tz14 => ?_)
          refine s_callVV (st := []) C (c_X1_add l ad τ11 z14 hXτ11 (pv_op (by omega))) cv_X1_53 y68 rfl rfl rfl ⟨by decide, by decide⟩ (Nat.le_of_ble_eq_true rfl) dX1_readCondition_43 ?_
          intro τ16 h17
          have hXτ16 := h17.1
          have hRτ16 := h17.2.2
          refine s_iinc C dX1_readCondition_46 rfl (by decide) rfl (by decide) (by omega) (fun z18 tz18 => ?_)
          show WP E ad 49 [some (.ref (ad 68)), some (.int d), some (.int z18)] [] τ16
          refine s_goto (tgt := 12) C dX1_readCondition_49 (by decide) ?_
          exact ih τ16 z18 (Fr.tr (Fr.tr (Fr.tr (Fr.tr Fr.rf (Fr.mo kF (by decide) (by decide))) (Fr.mo h7.2.1 (by decide) (by decide))) (Fr.mo h12.2.1 (by decide) (by decide))) (Fr.mo h17.2.1 (by decide) (by decide))) hXτ16 (by omega) (by omega)
        · refine s_iconst C dX1_readCondition_38 (by decide) (fun z19 tz19 => ?_)
          exact s_zret C (by omega) X dX1_readCondition_39 ⟨hXτ11, (Fr.tr (Fr.tr (Fr.tr Fr.rf (Fr.mo kF (by decide) (by decide))) (Fr.mo h7.2.1 (by decide) (by decide))) (Fr.mo h12.2.1 (by decide) (by decide))), by omega⟩
set_option maxRecDepth 100000 in
theorem c_X1_readCondition_3 (l : Launch) (ad : Nat → Nat) (σ : Sg) (d : Int32) (hX : IX σ.1) (hd : d.toInt = 3) : Mt l yX1_readCondition cX1_readCondition 3 (some .boolean) 12 ad σ [.ref (ad 68), .int d] (oI (fun r τ => IX τ.1 ∧ Fr [69] [(66, 1), (68, 2)] σ τ ∧ (r.toInt = 0 ∨ r.toInt = 1))) := by
  refine Mt_intro (by decide +kernel) (by simp [lg_sl, Value.category]) (fun E C X => ?_)
  show WP E ad 0 [some (.ref (ad 68)), some (.int d), none] [] σ
  refine s_aload_n C dX1_readCondition_0 rfl ?_
  refine s_iload_n C dX1_readCondition_1 rfl ?_
  refine s_callVI (st := []) C (c_X1_readAll_3 l ad σ d hX (by omega)) cv_X1_46 y68 rfl rfl rfl ⟨by decide, by decide⟩ (Nat.le_of_ble_eq_true rfl) dX1_readCondition_2 ?_
  intro r1 τ2 h3
  have hXτ2 := h3.1
  have hRτ2 := h3.2.2
  refine s_if_ne (tgt := 10) C dX1_readCondition_5 (by decide) (fun q4 => ?_) (fun q4 => ?_)
  · refine s_iconst C dX1_readCondition_10 (by decide) (fun z5 tz5 => ?_)
    refine s_istore_n C dX1_readCondition_11 (by decide) (Nat.le_of_ble_eq_true rfl) rfl ?_
    show WP E ad 12 [some (.ref (ad 68)), some (.int d), some (.int z5)] [] τ2
    exact L_readCondition_3 l ad E σ d hd C X 100 τ2 z5 (Fr.tr Fr.rf (Fr.mo h3.2.1 (by decide) (by decide))) hXτ2 (by omega) (by omega)
  · refine s_iconst C dX1_readCondition_8 (by decide) (fun z6 tz6 => ?_)
    exact s_zret C (by omega) X dX1_readCondition_9 ⟨hXτ2, (Fr.tr Fr.rf (Fr.mo h3.2.1 (by decide) (by decide))), by omega⟩
set_option maxRecDepth 100000 in
theorem c_X1_readTest_2 (l : Launch) (ad : Nat → Nat) (σ : Sg) (d : Int32) (hX : IX σ.1) (hd : d.toInt = 2) : Mt l yX1_readTest cX1_readTest 3 (some .boolean) 13 ad σ [.ref (ad 68), .int d] (oI (fun r τ => IX τ.1 ∧ Fr [69] [(66, 1), (68, 2)] σ τ ∧ (r.toInt = 0 ∨ r.toInt = 1))) := by
  refine Mt_intro (by decide +kernel) (by simp [lg_sl, Value.category]) (fun E C X => ?_)
  show WP E ad 0 [some (.ref (ad 68)), some (.int d), none] [] σ
  refine s_aload_n C dX1_readTest_0 rfl ?_
  refine s_getr (k := 0) (j := 66) C y68 fw_X1_19 rfl dX1_readTest_1 ?_
  refine s_callVI (st := []) C (c_X8_peek l ad σ  hX) cv_X1_60 y66 rfl rfl rfl ⟨by decide, by decide⟩ (Nat.le_of_ble_eq_true rfl) dX1_readTest_4 ?_
  intro r1 τ2 h3
  obtain ⟨eh3, h3⟩ := h3; replace eh3 := eh3.symm; subst eh3
  refine s_istore_n C dX1_readTest_7 (by decide) (Nat.le_of_ble_eq_true rfl) rfl ?_
  show WP E ad 8 [some (.ref (ad 68)), some (.int d), some (.int r1)] [] σ
  refine s_iload_n C dX1_readTest_8 rfl ?_
  refine s_bipush C dX1_readTest_9 (by decide) (fun z4 tz4 => ?_)
  refine s_icmp_eq (tgt := 25) C dX1_readTest_11 (by decide) (fun q5 => ?_) (fun q5 => ?_)
  · refine s_iload_n C dX1_readTest_25 rfl ?_
    refine s_iconst C dX1_readTest_26 (by decide) (fun z6 tz6 => ?_)
    refine s_icmp_lt (tgt := 32) C dX1_readTest_27 (by decide) (fun q7 => ?_) (fun q7 => ?_)
    · refine s_aload_n C dX1_readTest_32 rfl ?_
      refine s_getr (k := 0) (j := 66) C y68 fw_X1_19 rfl dX1_readTest_33 ?_
      refine s_iload_n C dX1_readTest_36 rfl ?_
      refine s_callVI (st := []) C (c_X8_accept l ad σ r1 hX ) cv_X1_50 y66 rfl rfl rfl ⟨by decide, by decide⟩ (Nat.le_of_ble_eq_true rfl) dX1_readTest_37 ?_
      intro r8 τ9 h10
      have hXτ9 := h10.1
      have hRτ9 := h10.2.2
      refine s_pop C dX1_readTest_40 rfl ?_
      refine s_iload_n C dX1_readTest_41 rfl ?_
      refine s_bipush C dX1_readTest_42 (by decide) (fun z11 tz11 => ?_)
      refine s_icmp_ne (tgt := 75) C dX1_readTest_44 (by decide) (fun q12 => ?_) (fun q12 => ?_)
      · refine s_aload_n C dX1_readTest_75 rfl ?_
        refine s_iload_n C dX1_readTest_76 rfl ?_
        refine s_iconst C dX1_readTest_77 (by decide) (fun z13 tz13 => ?_)
        refine s_iadd C dX1_readTest_78 (by omega) (fun z14 tz14 => ?_)
        refine s_callVI (st := []) C (c_X1_readTest_3 l ad τ9 z14 hXτ9 (by omega)) cv_X1_57 y68 rfl rfl rfl ⟨by decide, by decide⟩ (Nat.le_of_ble_eq_true rfl) dX1_readTest_79 ?_
        intro r15 τ16 h17
        have hXτ16 := h17.1
        have hRτ16 := h17.2.2
        refine s_if_ne (tgt := 87) C dX1_readTest_82 (by decide) (fun q18 => ?_) (fun q18 => ?_)
        · refine s_aload_n C dX1_readTest_87 rfl ?_
          refine s_bipush C dX1_readTest_88 (by decide) (fun z19 tz19 => ?_)
          refine s_callVV (st := []) C (c_X1_add l ad τ16 z19 hXτ16 (pv_op (by omega))) cv_X1_53 y68 rfl rfl rfl ⟨by decide, by decide⟩ (Nat.le_of_ble_eq_true rfl) dX1_readTest_90 ?_
          intro τ21 h22
          have hXτ21 := h22.1
          have hRτ21 := h22.2.2
          refine s_iconst C dX1_readTest_93 (by decide) (fun z23 tz23 => ?_)
          exact s_zret C (by omega) X dX1_readTest_94 ⟨hXτ21, (Fr.tr (Fr.tr (Fr.tr Fr.rf (Fr.mo h10.2.1 (by decide) (by decide))) (Fr.mo h17.2.1 (by decide) (by decide))) (Fr.mo h22.2.1 (by decide) (by decide))), by omega⟩
        · refine s_iconst C dX1_readTest_85 (by decide) (fun z24 tz24 => ?_)
          exact s_zret C (by omega) X dX1_readTest_86 ⟨hXτ16, (Fr.tr (Fr.tr Fr.rf (Fr.mo h10.2.1 (by decide) (by decide))) (Fr.mo h17.2.1 (by decide) (by decide))), by omega⟩
      · refine s_aload_n C dX1_readTest_47 rfl ?_
        refine s_iload_n C dX1_readTest_48 rfl ?_
        refine s_iconst C dX1_readTest_49 (by decide) (fun z25 tz25 => ?_)
        refine s_iadd C dX1_readTest_50 (by omega) (fun z26 tz26 => ?_)
        refine s_callVI (st := []) C (c_X1_readCondition_3 l ad τ9 z26 hXτ9 (by omega)) cv_X1_68 y68 rfl rfl rfl ⟨by decide, by decide⟩ (Nat.le_of_ble_eq_true rfl) dX1_readTest_51 ?_
        intro r27 τ28 h29
        have hXτ28 := h29.1
        have hRτ28 := h29.2.2
        refine s_if_eq (tgt := 73) C dX1_readTest_54 (by decide) (fun q30 => ?_) (fun q30 => ?_)
        · refine s_iconst C dX1_readTest_73 (by decide) (fun z31 tz31 => ?_)
          exact s_zret C (by omega) X dX1_readTest_74 ⟨hXτ28, (Fr.tr (Fr.tr Fr.rf (Fr.mo h10.2.1 (by decide) (by decide))) (Fr.mo h29.2.1 (by decide) (by decide))), by omega⟩
        · refine s_aload_n C dX1_readTest_57 rfl ?_
          refine s_getr (k := 0) (j := 66) C y68 fw_X1_19 rfl dX1_readTest_58 ?_
          refine s_bipush C dX1_readTest_61 (by decide) (fun z32 tz32 => ?_)
          refine s_callVI (st := []) C (c_X8_accept l ad τ28 z32 hXτ28 ) cv_X1_50 y66 rfl rfl rfl ⟨by decide, by decide⟩ (Nat.le_of_ble_eq_true rfl) dX1_readTest_63 ?_
          intro r33 τ34 h35
          have hXτ34 := h35.1
          have hRτ34 := h35.2.2
          refine s_if_eq (tgt := 73) C dX1_readTest_66 (by decide) (fun q36 => ?_) (fun q36 => ?_)
          · refine s_iconst C dX1_readTest_73 (by decide) (fun z37 tz37 => ?_)
            exact s_zret C (by omega) X dX1_readTest_74 ⟨hXτ34, (Fr.tr (Fr.tr (Fr.tr Fr.rf (Fr.mo h10.2.1 (by decide) (by decide))) (Fr.mo h29.2.1 (by decide) (by decide))) (Fr.mo h35.2.1 (by decide) (by decide))), by omega⟩
          · refine s_iconst C dX1_readTest_69 (by decide) (fun z38 tz38 => ?_)
            refine s_goto (tgt := 74) C dX1_readTest_70 (by decide) ?_
            exact s_zret C (by omega) X dX1_readTest_74 ⟨hXτ34, (Fr.tr (Fr.tr (Fr.tr Fr.rf (Fr.mo h10.2.1 (by decide) (by decide))) (Fr.mo h29.2.1 (by decide) (by decide))) (Fr.mo h35.2.1 (by decide) (by decide))), by omega⟩
    · omega
  · refine s_iload_n C dX1_readTest_14 rfl ?_
    refine s_bipush C dX1_readTest_15 (by decide) (fun z39 tz39 => ?_)
    refine s_icmp_eq (tgt := 25) C dX1_readTest_17 (by decide) (fun q40 => ?_) (fun q40 => ?_)
    · refine s_iload_n C dX1_readTest_25 rfl ?_
      refine s_iconst C dX1_readTest_26 (by decide) (fun z41 tz41 => ?_)
      refine s_icmp_lt (tgt := 32) C dX1_readTest_27 (by decide) (fun q42 => ?_) (fun q42 => ?_)
      · refine s_aload_n C dX1_readTest_32 rfl ?_
        refine s_getr (k := 0) (j := 66) C y68 fw_X1_19 rfl dX1_readTest_33 ?_
        refine s_iload_n C dX1_readTest_36 rfl ?_
        refine s_callVI (st := []) C (c_X8_accept l ad σ r1 hX ) cv_X1_50 y66 rfl rfl rfl ⟨by decide, by decide⟩ (Nat.le_of_ble_eq_true rfl) dX1_readTest_37 ?_
        intro r43 τ44 h45
        have hXτ44 := h45.1
        have hRτ44 := h45.2.2
        refine s_pop C dX1_readTest_40 rfl ?_
        refine s_iload_n C dX1_readTest_41 rfl ?_
        refine s_bipush C dX1_readTest_42 (by decide) (fun z46 tz46 => ?_)
        refine s_icmp_ne (tgt := 75) C dX1_readTest_44 (by decide) (fun q47 => ?_) (fun q47 => ?_)
        · refine s_aload_n C dX1_readTest_75 rfl ?_
          refine s_iload_n C dX1_readTest_76 rfl ?_
          refine s_iconst C dX1_readTest_77 (by decide) (fun z48 tz48 => ?_)
          refine s_iadd C dX1_readTest_78 (by omega) (fun z49 tz49 => ?_)
          refine s_callVI (st := []) C (c_X1_readTest_3 l ad τ44 z49 hXτ44 (by omega)) cv_X1_57 y68 rfl rfl rfl ⟨by decide, by decide⟩ (Nat.le_of_ble_eq_true rfl) dX1_readTest_79 ?_
          intro r50 τ51 h52
          have hXτ51 := h52.1
          have hRτ51 := h52.2.2
          refine s_if_ne (tgt := 87) C dX1_readTest_82 (by decide) (fun q53 => ?_) (fun q53 => ?_)
          · refine s_aload_n C dX1_readTest_87 rfl ?_
            refine s_bipush C dX1_readTest_88 (by decide) (fun z54 tz54 => ?_)
            refine s_callVV (st := []) C (c_X1_add l ad τ51 z54 hXτ51 (pv_op (by omega))) cv_X1_53 y68 rfl rfl rfl ⟨by decide, by decide⟩ (Nat.le_of_ble_eq_true rfl) dX1_readTest_90 ?_
            intro τ56 h57
            have hXτ56 := h57.1
            have hRτ56 := h57.2.2
            refine s_iconst C dX1_readTest_93 (by decide) (fun z58 tz58 => ?_)
            exact s_zret C (by omega) X dX1_readTest_94 ⟨hXτ56, (Fr.tr (Fr.tr (Fr.tr Fr.rf (Fr.mo h45.2.1 (by decide) (by decide))) (Fr.mo h52.2.1 (by decide) (by decide))) (Fr.mo h57.2.1 (by decide) (by decide))), by omega⟩
          · refine s_iconst C dX1_readTest_85 (by decide) (fun z59 tz59 => ?_)
            exact s_zret C (by omega) X dX1_readTest_86 ⟨hXτ51, (Fr.tr (Fr.tr Fr.rf (Fr.mo h45.2.1 (by decide) (by decide))) (Fr.mo h52.2.1 (by decide) (by decide))), by omega⟩
        · refine s_aload_n C dX1_readTest_47 rfl ?_
          refine s_iload_n C dX1_readTest_48 rfl ?_
          refine s_iconst C dX1_readTest_49 (by decide) (fun z60 tz60 => ?_)
          refine s_iadd C dX1_readTest_50 (by omega) (fun z61 tz61 => ?_)
          refine s_callVI (st := []) C (c_X1_readCondition_3 l ad τ44 z61 hXτ44 (by omega)) cv_X1_68 y68 rfl rfl rfl ⟨by decide, by decide⟩ (Nat.le_of_ble_eq_true rfl) dX1_readTest_51 ?_
          intro r62 τ63 h64
          have hXτ63 := h64.1
          have hRτ63 := h64.2.2
          refine s_if_eq (tgt := 73) C dX1_readTest_54 (by decide) (fun q65 => ?_) (fun q65 => ?_)
          · refine s_iconst C dX1_readTest_73 (by decide) (fun z66 tz66 => ?_)
            exact s_zret C (by omega) X dX1_readTest_74 ⟨hXτ63, (Fr.tr (Fr.tr Fr.rf (Fr.mo h45.2.1 (by decide) (by decide))) (Fr.mo h64.2.1 (by decide) (by decide))), by omega⟩
          · refine s_aload_n C dX1_readTest_57 rfl ?_
            refine s_getr (k := 0) (j := 66) C y68 fw_X1_19 rfl dX1_readTest_58 ?_
            refine s_bipush C dX1_readTest_61 (by decide) (fun z67 tz67 => ?_)
            refine s_callVI (st := []) C (c_X8_accept l ad τ63 z67 hXτ63 ) cv_X1_50 y66 rfl rfl rfl ⟨by decide, by decide⟩ (Nat.le_of_ble_eq_true rfl) dX1_readTest_63 ?_
            intro r68 τ69 h70
            have hXτ69 := h70.1
            have hRτ69 := h70.2.2
            refine s_if_eq (tgt := 73) C dX1_readTest_66 (by decide) (fun q71 => ?_) (fun q71 => ?_)
            · refine s_iconst C dX1_readTest_73 (by decide) (fun z72 tz72 => ?_)
              exact s_zret C (by omega) X dX1_readTest_74 ⟨hXτ69, (Fr.tr (Fr.tr (Fr.tr Fr.rf (Fr.mo h45.2.1 (by decide) (by decide))) (Fr.mo h64.2.1 (by decide) (by decide))) (Fr.mo h70.2.1 (by decide) (by decide))), by omega⟩
            · refine s_iconst C dX1_readTest_69 (by decide) (fun z73 tz73 => ?_)
              refine s_goto (tgt := 74) C dX1_readTest_70 (by decide) ?_
              exact s_zret C (by omega) X dX1_readTest_74 ⟨hXτ69, (Fr.tr (Fr.tr (Fr.tr Fr.rf (Fr.mo h45.2.1 (by decide) (by decide))) (Fr.mo h64.2.1 (by decide) (by decide))) (Fr.mo h70.2.1 (by decide) (by decide))), by omega⟩
      · omega
    · refine s_aload_n C dX1_readTest_20 rfl ?_
      refine s_callVI (st := []) C (c_X1_readComparison l ad σ  hX ) cv_X1_64 y68 rfl rfl rfl ⟨by decide, by decide⟩ (Nat.le_of_ble_eq_true rfl) dX1_readTest_21 ?_
      intro r74 τ75 h76
      have hXτ75 := h76.1
      have hRτ75 := h76.2.2
      exact s_zret C (by omega) X dX1_readTest_24 ⟨hXτ75, (Fr.tr Fr.rf (Fr.mo h76.2.1 (by decide) (by decide))), by omega⟩
set_option maxRecDepth 100000 in
theorem L_readAll_2 (l : Launch) (ad : Nat → Nat) (E : Ev) (σ : Sg) (d : Int32) (hd : d.toInt = 2) (C : Cx E l (rmk 14) 3 cX1_readAll RX1) (X : Rx E ad (some .boolean) (oI (fun r τ => IX τ.1 ∧ Fr [69] [(66, 1), (68, 2)] σ τ ∧ (r.toInt = 0 ∨ r.toInt = 1))))  : ∀ (n : Nat) (τ : Sg) (z : Int32), (Fr [69] [(66, 1), (68, 2)] σ τ) → (IX τ.1) → (0 ≤ z.toInt) → (60 - z.toInt).toNat < n → WP E ad 12 [some (.ref (ad 68)), some (.int d), some (.int z)] [] τ := by
  intro n
  induction n with
  | zero => intro τ z kF hXτ h0 hm9; exact absurd hm9 (Nat.not_lt_zero _)
  | succ n ih =>
    intro τ z kF hXτ h0 hm9
    refine s_iload_n C dX1_readAll_12 rfl ?_
    refine s_bipush C dX1_readAll_13 (by decide) (fun z1 tz1 => ?_)
    refine s_icmp_ge (tgt := 52) C dX1_readAll_15 (by decide) (fun q2 => ?_) (fun q2 => ?_)
    · refine s_iconst C dX1_readAll_52 (by decide) (fun z3 tz3 => ?_)
      exact s_zret C (by omega) X dX1_readAll_53 ⟨hXτ, (Fr.tr Fr.rf (Fr.mo kF (by decide) (by decide))), by omega⟩
    · refine s_aload_n C dX1_readAll_18 rfl ?_
      refine s_getr (k := 0) (j := 66) C y68 fw_X1_19 rfl dX1_readAll_19 ?_
      refine s_bipush C dX1_readAll_22 (by decide) (fun z4 tz4 => ?_)
      refine s_callVI (st := []) C (c_X8_accept l ad τ z4 hXτ ) cv_X1_50 y66 rfl rfl rfl ⟨by decide, by decide⟩ (Nat.le_of_ble_eq_true rfl) dX1_readAll_24 ?_
      intro r5 τ6 h7
      have hXτ6 := h7.1
      have hRτ6 := h7.2.2
      refine s_if_eq (tgt := 52) C dX1_readAll_27 (by decide) (fun q8 => ?_) (fun q8 => ?_)
      · refine s_iconst C dX1_readAll_52 (by decide) (fun z9 tz9 => ?_)
        exact s_zret C (by omega) X dX1_readAll_53 ⟨hXτ6, (Fr.tr (Fr.tr Fr.rf (Fr.mo kF (by decide) (by decide))) (Fr.mo h7.2.1 (by decide) (by decide))), by omega⟩
      · refine s_aload_n C dX1_readAll_30 rfl ?_
        refine s_iload_n C dX1_readAll_31 rfl ?_
        refine s_callVI (st := []) C (c_X1_readTest_2 l ad τ6 d hXτ6 (by omega)) cv_X1_57 y68 rfl rfl rfl ⟨by decide, by decide⟩ (Nat.le_of_ble_eq_true rfl) dX1_readAll_32 ?_
        intro r10 τ11 h12
        have hXτ11 := h12.1
        have hRτ11 := h12.2.2
        refine s_if_ne (tgt := 40) C dX1_readAll_35 (by decide) (fun q13 => ?_) (fun q13 => ?_)
        · refine s_aload_n C dX1_readAll_40 rfl ?_
          refine s_bipush C dX1_readAll_41 (by decide) (fun z14 tz14 => ?_)
          refine s_callVV (st := []) C (c_X1_add l ad τ11 z14 hXτ11 (pv_op (by omega))) cv_X1_53 y68 rfl rfl rfl ⟨by decide, by decide⟩ (Nat.le_of_ble_eq_true rfl) dX1_readAll_43 ?_
          intro τ16 h17
          have hXτ16 := h17.1
          have hRτ16 := h17.2.2
          refine s_iinc C dX1_readAll_46 rfl (by decide) rfl (by decide) (by omega) (fun z18 tz18 => ?_)
          show WP E ad 49 [some (.ref (ad 68)), some (.int d), some (.int z18)] [] τ16
          refine s_goto (tgt := 12) C dX1_readAll_49 (by decide) ?_
          exact ih τ16 z18 (Fr.tr (Fr.tr (Fr.tr (Fr.tr Fr.rf (Fr.mo kF (by decide) (by decide))) (Fr.mo h7.2.1 (by decide) (by decide))) (Fr.mo h12.2.1 (by decide) (by decide))) (Fr.mo h17.2.1 (by decide) (by decide))) hXτ16 (by omega) (by omega)
        · refine s_iconst C dX1_readAll_38 (by decide) (fun z19 tz19 => ?_)
          exact s_zret C (by omega) X dX1_readAll_39 ⟨hXτ11, (Fr.tr (Fr.tr (Fr.tr Fr.rf (Fr.mo kF (by decide) (by decide))) (Fr.mo h7.2.1 (by decide) (by decide))) (Fr.mo h12.2.1 (by decide) (by decide))), by omega⟩
set_option maxRecDepth 100000 in
theorem c_X1_readAll_2 (l : Launch) (ad : Nat → Nat) (σ : Sg) (d : Int32) (hX : IX σ.1) (hd : d.toInt = 2) : Mt l yX1_readAll cX1_readAll 3 (some .boolean) 14 ad σ [.ref (ad 68), .int d] (oI (fun r τ => IX τ.1 ∧ Fr [69] [(66, 1), (68, 2)] σ τ ∧ (r.toInt = 0 ∨ r.toInt = 1))) := by
  refine Mt_intro (by decide +kernel) (by simp [lg_sl, Value.category]) (fun E C X => ?_)
  show WP E ad 0 [some (.ref (ad 68)), some (.int d), none] [] σ
  refine s_aload_n C dX1_readAll_0 rfl ?_
  refine s_iload_n C dX1_readAll_1 rfl ?_
  refine s_callVI (st := []) C (c_X1_readTest_2 l ad σ d hX (by omega)) cv_X1_57 y68 rfl rfl rfl ⟨by decide, by decide⟩ (Nat.le_of_ble_eq_true rfl) dX1_readAll_2 ?_
  intro r1 τ2 h3
  have hXτ2 := h3.1
  have hRτ2 := h3.2.2
  refine s_if_ne (tgt := 10) C dX1_readAll_5 (by decide) (fun q4 => ?_) (fun q4 => ?_)
  · refine s_iconst C dX1_readAll_10 (by decide) (fun z5 tz5 => ?_)
    refine s_istore_n C dX1_readAll_11 (by decide) (Nat.le_of_ble_eq_true rfl) rfl ?_
    show WP E ad 12 [some (.ref (ad 68)), some (.int d), some (.int z5)] [] τ2
    exact L_readAll_2 l ad E σ d hd C X 100 τ2 z5 (Fr.tr Fr.rf (Fr.mo h3.2.1 (by decide) (by decide))) hXτ2 (by omega) (by omega)
  · refine s_iconst C dX1_readAll_8 (by decide) (fun z6 tz6 => ?_)
    exact s_zret C (by omega) X dX1_readAll_9 ⟨hXτ2, (Fr.tr Fr.rf (Fr.mo h3.2.1 (by decide) (by decide))), by omega⟩
set_option maxRecDepth 100000 in
theorem L_readCondition_2 (l : Launch) (ad : Nat → Nat) (E : Ev) (σ : Sg) (d : Int32) (hd : d.toInt = 2) (C : Cx E l (rmk 15) 3 cX1_readCondition RX1) (X : Rx E ad (some .boolean) (oI (fun r τ => IX τ.1 ∧ Fr [69] [(66, 1), (68, 2)] σ τ ∧ (r.toInt = 0 ∨ r.toInt = 1))))  : ∀ (n : Nat) (τ : Sg) (z : Int32), (Fr [69] [(66, 1), (68, 2)] σ τ) → (IX τ.1) → (0 ≤ z.toInt) → (60 - z.toInt).toNat < n → WP E ad 12 [some (.ref (ad 68)), some (.int d), some (.int z)] [] τ := by
  intro n
  induction n with
  | zero => intro τ z kF hXτ h0 hm9; exact absurd hm9 (Nat.not_lt_zero _)
  | succ n ih =>
    intro τ z kF hXτ h0 hm9
    refine s_iload_n C dX1_readCondition_12 rfl ?_
    refine s_bipush C dX1_readCondition_13 (by decide) (fun z1 tz1 => ?_)
    refine s_icmp_ge (tgt := 52) C dX1_readCondition_15 (by decide) (fun q2 => ?_) (fun q2 => ?_)
    · refine s_iconst C dX1_readCondition_52 (by decide) (fun z3 tz3 => ?_)
      exact s_zret C (by omega) X dX1_readCondition_53 ⟨hXτ, (Fr.tr Fr.rf (Fr.mo kF (by decide) (by decide))), by omega⟩
    · refine s_aload_n C dX1_readCondition_18 rfl ?_
      refine s_getr (k := 0) (j := 66) C y68 fw_X1_19 rfl dX1_readCondition_19 ?_
      refine s_bipush C dX1_readCondition_22 (by decide) (fun z4 tz4 => ?_)
      refine s_callVI (st := []) C (c_X8_accept l ad τ z4 hXτ ) cv_X1_50 y66 rfl rfl rfl ⟨by decide, by decide⟩ (Nat.le_of_ble_eq_true rfl) dX1_readCondition_24 ?_
      intro r5 τ6 h7
      have hXτ6 := h7.1
      have hRτ6 := h7.2.2
      refine s_if_eq (tgt := 52) C dX1_readCondition_27 (by decide) (fun q8 => ?_) (fun q8 => ?_)
      · refine s_iconst C dX1_readCondition_52 (by decide) (fun z9 tz9 => ?_)
        exact s_zret C (by omega) X dX1_readCondition_53 ⟨hXτ6, (Fr.tr (Fr.tr Fr.rf (Fr.mo kF (by decide) (by decide))) (Fr.mo h7.2.1 (by decide) (by decide))), by omega⟩
      · refine s_aload_n C dX1_readCondition_30 rfl ?_
        refine s_iload_n C dX1_readCondition_31 rfl ?_
        refine s_callVI (st := []) C (c_X1_readAll_2 l ad τ6 d hXτ6 (by omega)) cv_X1_46 y68 rfl rfl rfl ⟨by decide, by decide⟩ (Nat.le_of_ble_eq_true rfl) dX1_readCondition_32 ?_
        intro r10 τ11 h12
        have hXτ11 := h12.1
        have hRτ11 := h12.2.2
        refine s_if_ne (tgt := 40) C dX1_readCondition_35 (by decide) (fun q13 => ?_) (fun q13 => ?_)
        · refine s_aload_n C dX1_readCondition_40 rfl ?_
          refine s_bipush C dX1_readCondition_41 (by decide) (fun z14 tz14 => ?_)
          refine s_callVV (st := []) C (c_X1_add l ad τ11 z14 hXτ11 (pv_op (by omega))) cv_X1_53 y68 rfl rfl rfl ⟨by decide, by decide⟩ (Nat.le_of_ble_eq_true rfl) dX1_readCondition_43 ?_
          intro τ16 h17
          have hXτ16 := h17.1
          have hRτ16 := h17.2.2
          refine s_iinc C dX1_readCondition_46 rfl (by decide) rfl (by decide) (by omega) (fun z18 tz18 => ?_)
          show WP E ad 49 [some (.ref (ad 68)), some (.int d), some (.int z18)] [] τ16
          refine s_goto (tgt := 12) C dX1_readCondition_49 (by decide) ?_
          exact ih τ16 z18 (Fr.tr (Fr.tr (Fr.tr (Fr.tr Fr.rf (Fr.mo kF (by decide) (by decide))) (Fr.mo h7.2.1 (by decide) (by decide))) (Fr.mo h12.2.1 (by decide) (by decide))) (Fr.mo h17.2.1 (by decide) (by decide))) hXτ16 (by omega) (by omega)
        · refine s_iconst C dX1_readCondition_38 (by decide) (fun z19 tz19 => ?_)
          exact s_zret C (by omega) X dX1_readCondition_39 ⟨hXτ11, (Fr.tr (Fr.tr (Fr.tr Fr.rf (Fr.mo kF (by decide) (by decide))) (Fr.mo h7.2.1 (by decide) (by decide))) (Fr.mo h12.2.1 (by decide) (by decide))), by omega⟩
set_option maxRecDepth 100000 in
theorem c_X1_readCondition_2 (l : Launch) (ad : Nat → Nat) (σ : Sg) (d : Int32) (hX : IX σ.1) (hd : d.toInt = 2) : Mt l yX1_readCondition cX1_readCondition 3 (some .boolean) 15 ad σ [.ref (ad 68), .int d] (oI (fun r τ => IX τ.1 ∧ Fr [69] [(66, 1), (68, 2)] σ τ ∧ (r.toInt = 0 ∨ r.toInt = 1))) := by
  refine Mt_intro (by decide +kernel) (by simp [lg_sl, Value.category]) (fun E C X => ?_)
  show WP E ad 0 [some (.ref (ad 68)), some (.int d), none] [] σ
  refine s_aload_n C dX1_readCondition_0 rfl ?_
  refine s_iload_n C dX1_readCondition_1 rfl ?_
  refine s_callVI (st := []) C (c_X1_readAll_2 l ad σ d hX (by omega)) cv_X1_46 y68 rfl rfl rfl ⟨by decide, by decide⟩ (Nat.le_of_ble_eq_true rfl) dX1_readCondition_2 ?_
  intro r1 τ2 h3
  have hXτ2 := h3.1
  have hRτ2 := h3.2.2
  refine s_if_ne (tgt := 10) C dX1_readCondition_5 (by decide) (fun q4 => ?_) (fun q4 => ?_)
  · refine s_iconst C dX1_readCondition_10 (by decide) (fun z5 tz5 => ?_)
    refine s_istore_n C dX1_readCondition_11 (by decide) (Nat.le_of_ble_eq_true rfl) rfl ?_
    show WP E ad 12 [some (.ref (ad 68)), some (.int d), some (.int z5)] [] τ2
    exact L_readCondition_2 l ad E σ d hd C X 100 τ2 z5 (Fr.tr Fr.rf (Fr.mo h3.2.1 (by decide) (by decide))) hXτ2 (by omega) (by omega)
  · refine s_iconst C dX1_readCondition_8 (by decide) (fun z6 tz6 => ?_)
    exact s_zret C (by omega) X dX1_readCondition_9 ⟨hXτ2, (Fr.tr Fr.rf (Fr.mo h3.2.1 (by decide) (by decide))), by omega⟩
set_option maxRecDepth 100000 in
theorem c_X1_readTest_1 (l : Launch) (ad : Nat → Nat) (σ : Sg) (d : Int32) (hX : IX σ.1) (hd : d.toInt = 1) : Mt l yX1_readTest cX1_readTest 3 (some .boolean) 16 ad σ [.ref (ad 68), .int d] (oI (fun r τ => IX τ.1 ∧ Fr [69] [(66, 1), (68, 2)] σ τ ∧ (r.toInt = 0 ∨ r.toInt = 1))) := by
  refine Mt_intro (by decide +kernel) (by simp [lg_sl, Value.category]) (fun E C X => ?_)
  show WP E ad 0 [some (.ref (ad 68)), some (.int d), none] [] σ
  refine s_aload_n C dX1_readTest_0 rfl ?_
  refine s_getr (k := 0) (j := 66) C y68 fw_X1_19 rfl dX1_readTest_1 ?_
  refine s_callVI (st := []) C (c_X8_peek l ad σ  hX) cv_X1_60 y66 rfl rfl rfl ⟨by decide, by decide⟩ (Nat.le_of_ble_eq_true rfl) dX1_readTest_4 ?_
  intro r1 τ2 h3
  obtain ⟨eh3, h3⟩ := h3; replace eh3 := eh3.symm; subst eh3
  refine s_istore_n C dX1_readTest_7 (by decide) (Nat.le_of_ble_eq_true rfl) rfl ?_
  show WP E ad 8 [some (.ref (ad 68)), some (.int d), some (.int r1)] [] σ
  refine s_iload_n C dX1_readTest_8 rfl ?_
  refine s_bipush C dX1_readTest_9 (by decide) (fun z4 tz4 => ?_)
  refine s_icmp_eq (tgt := 25) C dX1_readTest_11 (by decide) (fun q5 => ?_) (fun q5 => ?_)
  · refine s_iload_n C dX1_readTest_25 rfl ?_
    refine s_iconst C dX1_readTest_26 (by decide) (fun z6 tz6 => ?_)
    refine s_icmp_lt (tgt := 32) C dX1_readTest_27 (by decide) (fun q7 => ?_) (fun q7 => ?_)
    · refine s_aload_n C dX1_readTest_32 rfl ?_
      refine s_getr (k := 0) (j := 66) C y68 fw_X1_19 rfl dX1_readTest_33 ?_
      refine s_iload_n C dX1_readTest_36 rfl ?_
      refine s_callVI (st := []) C (c_X8_accept l ad σ r1 hX ) cv_X1_50 y66 rfl rfl rfl ⟨by decide, by decide⟩ (Nat.le_of_ble_eq_true rfl) dX1_readTest_37 ?_
      intro r8 τ9 h10
      have hXτ9 := h10.1
      have hRτ9 := h10.2.2
      refine s_pop C dX1_readTest_40 rfl ?_
      refine s_iload_n C dX1_readTest_41 rfl ?_
      refine s_bipush C dX1_readTest_42 (by decide) (fun z11 tz11 => ?_)
      refine s_icmp_ne (tgt := 75) C dX1_readTest_44 (by decide) (fun q12 => ?_) (fun q12 => ?_)
      · refine s_aload_n C dX1_readTest_75 rfl ?_
        refine s_iload_n C dX1_readTest_76 rfl ?_
        refine s_iconst C dX1_readTest_77 (by decide) (fun z13 tz13 => ?_)
        refine s_iadd C dX1_readTest_78 (by omega) (fun z14 tz14 => ?_)
        refine s_callVI (st := []) C (c_X1_readTest_2 l ad τ9 z14 hXτ9 (by omega)) cv_X1_57 y68 rfl rfl rfl ⟨by decide, by decide⟩ (Nat.le_of_ble_eq_true rfl) dX1_readTest_79 ?_
        intro r15 τ16 h17
        have hXτ16 := h17.1
        have hRτ16 := h17.2.2
        refine s_if_ne (tgt := 87) C dX1_readTest_82 (by decide) (fun q18 => ?_) (fun q18 => ?_)
        · refine s_aload_n C dX1_readTest_87 rfl ?_
          refine s_bipush C dX1_readTest_88 (by decide) (fun z19 tz19 => ?_)
          refine s_callVV (st := []) C (c_X1_add l ad τ16 z19 hXτ16 (pv_op (by omega))) cv_X1_53 y68 rfl rfl rfl ⟨by decide, by decide⟩ (Nat.le_of_ble_eq_true rfl) dX1_readTest_90 ?_
          intro τ21 h22
          have hXτ21 := h22.1
          have hRτ21 := h22.2.2
          refine s_iconst C dX1_readTest_93 (by decide) (fun z23 tz23 => ?_)
          exact s_zret C (by omega) X dX1_readTest_94 ⟨hXτ21, (Fr.tr (Fr.tr (Fr.tr Fr.rf (Fr.mo h10.2.1 (by decide) (by decide))) (Fr.mo h17.2.1 (by decide) (by decide))) (Fr.mo h22.2.1 (by decide) (by decide))), by omega⟩
        · refine s_iconst C dX1_readTest_85 (by decide) (fun z24 tz24 => ?_)
          exact s_zret C (by omega) X dX1_readTest_86 ⟨hXτ16, (Fr.tr (Fr.tr Fr.rf (Fr.mo h10.2.1 (by decide) (by decide))) (Fr.mo h17.2.1 (by decide) (by decide))), by omega⟩
      · refine s_aload_n C dX1_readTest_47 rfl ?_
        refine s_iload_n C dX1_readTest_48 rfl ?_
        refine s_iconst C dX1_readTest_49 (by decide) (fun z25 tz25 => ?_)
        refine s_iadd C dX1_readTest_50 (by omega) (fun z26 tz26 => ?_)
        refine s_callVI (st := []) C (c_X1_readCondition_2 l ad τ9 z26 hXτ9 (by omega)) cv_X1_68 y68 rfl rfl rfl ⟨by decide, by decide⟩ (Nat.le_of_ble_eq_true rfl) dX1_readTest_51 ?_
        intro r27 τ28 h29
        have hXτ28 := h29.1
        have hRτ28 := h29.2.2
        refine s_if_eq (tgt := 73) C dX1_readTest_54 (by decide) (fun q30 => ?_) (fun q30 => ?_)
        · refine s_iconst C dX1_readTest_73 (by decide) (fun z31 tz31 => ?_)
          exact s_zret C (by omega) X dX1_readTest_74 ⟨hXτ28, (Fr.tr (Fr.tr Fr.rf (Fr.mo h10.2.1 (by decide) (by decide))) (Fr.mo h29.2.1 (by decide) (by decide))), by omega⟩
        · refine s_aload_n C dX1_readTest_57 rfl ?_
          refine s_getr (k := 0) (j := 66) C y68 fw_X1_19 rfl dX1_readTest_58 ?_
          refine s_bipush C dX1_readTest_61 (by decide) (fun z32 tz32 => ?_)
          refine s_callVI (st := []) C (c_X8_accept l ad τ28 z32 hXτ28 ) cv_X1_50 y66 rfl rfl rfl ⟨by decide, by decide⟩ (Nat.le_of_ble_eq_true rfl) dX1_readTest_63 ?_
          intro r33 τ34 h35
          have hXτ34 := h35.1
          have hRτ34 := h35.2.2
          refine s_if_eq (tgt := 73) C dX1_readTest_66 (by decide) (fun q36 => ?_) (fun q36 => ?_)
          · refine s_iconst C dX1_readTest_73 (by decide) (fun z37 tz37 => ?_)
            exact s_zret C (by omega) X dX1_readTest_74 ⟨hXτ34, (Fr.tr (Fr.tr (Fr.tr Fr.rf (Fr.mo h10.2.1 (by decide) (by decide))) (Fr.mo h29.2.1 (by decide) (by decide))) (Fr.mo h35.2.1 (by decide) (by decide))), by omega⟩
          · refine s_iconst C dX1_readTest_69 (by decide) (fun z38 tz38 => ?_)
            refine s_goto (tgt := 74) C dX1_readTest_70 (by decide) ?_
            exact s_zret C (by omega) X dX1_readTest_74 ⟨hXτ34, (Fr.tr (Fr.tr (Fr.tr Fr.rf (Fr.mo h10.2.1 (by decide) (by decide))) (Fr.mo h29.2.1 (by decide) (by decide))) (Fr.mo h35.2.1 (by decide) (by decide))), by omega⟩
    · omega
  · refine s_iload_n C dX1_readTest_14 rfl ?_
    refine s_bipush C dX1_readTest_15 (by decide) (fun z39 tz39 => ?_)
    refine s_icmp_eq (tgt := 25) C dX1_readTest_17 (by decide) (fun q40 => ?_) (fun q40 => ?_)
    · refine s_iload_n C dX1_readTest_25 rfl ?_
      refine s_iconst C dX1_readTest_26 (by decide) (fun z41 tz41 => ?_)
      refine s_icmp_lt (tgt := 32) C dX1_readTest_27 (by decide) (fun q42 => ?_) (fun q42 => ?_)
      · refine s_aload_n C dX1_readTest_32 rfl ?_
        refine s_getr (k := 0) (j := 66) C y68 fw_X1_19 rfl dX1_readTest_33 ?_
        refine s_iload_n C dX1_readTest_36 rfl ?_
        refine s_callVI (st := []) C (c_X8_accept l ad σ r1 hX ) cv_X1_50 y66 rfl rfl rfl ⟨by decide, by decide⟩ (Nat.le_of_ble_eq_true rfl) dX1_readTest_37 ?_
        intro r43 τ44 h45
        have hXτ44 := h45.1
        have hRτ44 := h45.2.2
        refine s_pop C dX1_readTest_40 rfl ?_
        refine s_iload_n C dX1_readTest_41 rfl ?_
        refine s_bipush C dX1_readTest_42 (by decide) (fun z46 tz46 => ?_)
        refine s_icmp_ne (tgt := 75) C dX1_readTest_44 (by decide) (fun q47 => ?_) (fun q47 => ?_)
        · refine s_aload_n C dX1_readTest_75 rfl ?_
          refine s_iload_n C dX1_readTest_76 rfl ?_
          refine s_iconst C dX1_readTest_77 (by decide) (fun z48 tz48 => ?_)
          refine s_iadd C dX1_readTest_78 (by omega) (fun z49 tz49 => ?_)
          refine s_callVI (st := []) C (c_X1_readTest_2 l ad τ44 z49 hXτ44 (by omega)) cv_X1_57 y68 rfl rfl rfl ⟨by decide, by decide⟩ (Nat.le_of_ble_eq_true rfl) dX1_readTest_79 ?_
          intro r50 τ51 h52
          have hXτ51 := h52.1
          have hRτ51 := h52.2.2
          refine s_if_ne (tgt := 87) C dX1_readTest_82 (by decide) (fun q53 => ?_) (fun q53 => ?_)
          · refine s_aload_n C dX1_readTest_87 rfl ?_
            refine s_bipush C dX1_readTest_88 (by decide) (fun z54 tz54 => ?_)
            refine s_callVV (st := []) C (c_X1_add l ad τ51 z54 hXτ51 (pv_op (by omega))) cv_X1_53 y68 rfl rfl rfl ⟨by decide, by decide⟩ (Nat.le_of_ble_eq_true rfl) dX1_readTest_90 ?_
            intro τ56 h57
            have hXτ56 := h57.1
            have hRτ56 := h57.2.2
            refine s_iconst C dX1_readTest_93 (by decide) (fun z58 tz58 => ?_)
            exact s_zret C (by omega) X dX1_readTest_94 ⟨hXτ56, (Fr.tr (Fr.tr (Fr.tr Fr.rf (Fr.mo h45.2.1 (by decide) (by decide))) (Fr.mo h52.2.1 (by decide) (by decide))) (Fr.mo h57.2.1 (by decide) (by decide))), by omega⟩
          · refine s_iconst C dX1_readTest_85 (by decide) (fun z59 tz59 => ?_)
            exact s_zret C (by omega) X dX1_readTest_86 ⟨hXτ51, (Fr.tr (Fr.tr Fr.rf (Fr.mo h45.2.1 (by decide) (by decide))) (Fr.mo h52.2.1 (by decide) (by decide))), by omega⟩
        · refine s_aload_n C dX1_readTest_47 rfl ?_
          refine s_iload_n C dX1_readTest_48 rfl ?_
          refine s_iconst C dX1_readTest_49 (by decide) (fun z60 tz60 => ?_)
          refine s_iadd C dX1_readTest_50 (by omega) (fun z61 tz61 => ?_)
          refine s_callVI (st := []) C (c_X1_readCondition_2 l ad τ44 z61 hXτ44 (by omega)) cv_X1_68 y68 rfl rfl rfl ⟨by decide, by decide⟩ (Nat.le_of_ble_eq_true rfl) dX1_readTest_51 ?_
          intro r62 τ63 h64
          have hXτ63 := h64.1
          have hRτ63 := h64.2.2
          refine s_if_eq (tgt := 73) C dX1_readTest_54 (by decide) (fun q65 => ?_) (fun q65 => ?_)
          · refine s_iconst C dX1_readTest_73 (by decide) (fun z66 tz66 => ?_)
            exact s_zret C (by omega) X dX1_readTest_74 ⟨hXτ63, (Fr.tr (Fr.tr Fr.rf (Fr.mo h45.2.1 (by decide) (by decide))) (Fr.mo h64.2.1 (by decide) (by decide))), by omega⟩
          · refine s_aload_n C dX1_readTest_57 rfl ?_
            refine s_getr (k := 0) (j := 66) C y68 fw_X1_19 rfl dX1_readTest_58 ?_
            refine s_bipush C dX1_readTest_61 (by decide) (fun z67 tz67 => ?_)
            refine s_callVI (st := []) C (c_X8_accept l ad τ63 z67 hXτ63 ) cv_X1_50 y66 rfl rfl rfl ⟨by decide, by decide⟩ (Nat.le_of_ble_eq_true rfl) dX1_readTest_63 ?_
            intro r68 τ69 h70
            have hXτ69 := h70.1
            have hRτ69 := h70.2.2
            refine s_if_eq (tgt := 73) C dX1_readTest_66 (by decide) (fun q71 => ?_) (fun q71 => ?_)
            · refine s_iconst C dX1_readTest_73 (by decide) (fun z72 tz72 => ?_)
              exact s_zret C (by omega) X dX1_readTest_74 ⟨hXτ69, (Fr.tr (Fr.tr (Fr.tr Fr.rf (Fr.mo h45.2.1 (by decide) (by decide))) (Fr.mo h64.2.1 (by decide) (by decide))) (Fr.mo h70.2.1 (by decide) (by decide))), by omega⟩
            · refine s_iconst C dX1_readTest_69 (by decide) (fun z73 tz73 => ?_)
              refine s_goto (tgt := 74) C dX1_readTest_70 (by decide) ?_
              exact s_zret C (by omega) X dX1_readTest_74 ⟨hXτ69, (Fr.tr (Fr.tr (Fr.tr Fr.rf (Fr.mo h45.2.1 (by decide) (by decide))) (Fr.mo h64.2.1 (by decide) (by decide))) (Fr.mo h70.2.1 (by decide) (by decide))), by omega⟩
      · omega
    · refine s_aload_n C dX1_readTest_20 rfl ?_
      refine s_callVI (st := []) C (c_X1_readComparison l ad σ  hX ) cv_X1_64 y68 rfl rfl rfl ⟨by decide, by decide⟩ (Nat.le_of_ble_eq_true rfl) dX1_readTest_21 ?_
      intro r74 τ75 h76
      have hXτ75 := h76.1
      have hRτ75 := h76.2.2
      exact s_zret C (by omega) X dX1_readTest_24 ⟨hXτ75, (Fr.tr Fr.rf (Fr.mo h76.2.1 (by decide) (by decide))), by omega⟩
set_option maxRecDepth 100000 in
theorem L_readAll_1 (l : Launch) (ad : Nat → Nat) (E : Ev) (σ : Sg) (d : Int32) (hd : d.toInt = 1) (C : Cx E l (rmk 17) 3 cX1_readAll RX1) (X : Rx E ad (some .boolean) (oI (fun r τ => IX τ.1 ∧ Fr [69] [(66, 1), (68, 2)] σ τ ∧ (r.toInt = 0 ∨ r.toInt = 1))))  : ∀ (n : Nat) (τ : Sg) (z : Int32), (Fr [69] [(66, 1), (68, 2)] σ τ) → (IX τ.1) → (0 ≤ z.toInt) → (60 - z.toInt).toNat < n → WP E ad 12 [some (.ref (ad 68)), some (.int d), some (.int z)] [] τ := by
  intro n
  induction n with
  | zero => intro τ z kF hXτ h0 hm9; exact absurd hm9 (Nat.not_lt_zero _)
  | succ n ih =>
    intro τ z kF hXτ h0 hm9
    refine s_iload_n C dX1_readAll_12 rfl ?_
    refine s_bipush C dX1_readAll_13 (by decide) (fun z1 tz1 => ?_)
    refine s_icmp_ge (tgt := 52) C dX1_readAll_15 (by decide) (fun q2 => ?_) (fun q2 => ?_)
    · refine s_iconst C dX1_readAll_52 (by decide) (fun z3 tz3 => ?_)
      exact s_zret C (by omega) X dX1_readAll_53 ⟨hXτ, (Fr.tr Fr.rf (Fr.mo kF (by decide) (by decide))), by omega⟩
    · refine s_aload_n C dX1_readAll_18 rfl ?_
      refine s_getr (k := 0) (j := 66) C y68 fw_X1_19 rfl dX1_readAll_19 ?_
      refine s_bipush C dX1_readAll_22 (by decide) (fun z4 tz4 => ?_)
      refine s_callVI (st := []) C (c_X8_accept l ad τ z4 hXτ ) cv_X1_50 y66 rfl rfl rfl ⟨by decide, by decide⟩ (Nat.le_of_ble_eq_true rfl) dX1_readAll_24 ?_
      intro r5 τ6 h7
      have hXτ6 := h7.1
      have hRτ6 := h7.2.2
      refine s_if_eq (tgt := 52) C dX1_readAll_27 (by decide) (fun q8 => ?_) (fun q8 => ?_)
      · refine s_iconst C dX1_readAll_52 (by decide) (fun z9 tz9 => ?_)
        exact s_zret C (by omega) X dX1_readAll_53 ⟨hXτ6, (Fr.tr (Fr.tr Fr.rf (Fr.mo kF (by decide) (by decide))) (Fr.mo h7.2.1 (by decide) (by decide))), by omega⟩
      · refine s_aload_n C dX1_readAll_30 rfl ?_
        refine s_iload_n C dX1_readAll_31 rfl ?_
        refine s_callVI (st := []) C (c_X1_readTest_1 l ad τ6 d hXτ6 (by omega)) cv_X1_57 y68 rfl rfl rfl ⟨by decide, by decide⟩ (Nat.le_of_ble_eq_true rfl) dX1_readAll_32 ?_
        intro r10 τ11 h12
        have hXτ11 := h12.1
        have hRτ11 := h12.2.2
        refine s_if_ne (tgt := 40) C dX1_readAll_35 (by decide) (fun q13 => ?_) (fun q13 => ?_)
        · refine s_aload_n C dX1_readAll_40 rfl ?_
          refine s_bipush C dX1_readAll_41 (by decide) (fun z14 tz14 => ?_)
          refine s_callVV (st := []) C (c_X1_add l ad τ11 z14 hXτ11 (pv_op (by omega))) cv_X1_53 y68 rfl rfl rfl ⟨by decide, by decide⟩ (Nat.le_of_ble_eq_true rfl) dX1_readAll_43 ?_
          intro τ16 h17
          have hXτ16 := h17.1
          have hRτ16 := h17.2.2
          refine s_iinc C dX1_readAll_46 rfl (by decide) rfl (by decide) (by omega) (fun z18 tz18 => ?_)
          show WP E ad 49 [some (.ref (ad 68)), some (.int d), some (.int z18)] [] τ16
          refine s_goto (tgt := 12) C dX1_readAll_49 (by decide) ?_
          exact ih τ16 z18 (Fr.tr (Fr.tr (Fr.tr (Fr.tr Fr.rf (Fr.mo kF (by decide) (by decide))) (Fr.mo h7.2.1 (by decide) (by decide))) (Fr.mo h12.2.1 (by decide) (by decide))) (Fr.mo h17.2.1 (by decide) (by decide))) hXτ16 (by omega) (by omega)
        · refine s_iconst C dX1_readAll_38 (by decide) (fun z19 tz19 => ?_)
          exact s_zret C (by omega) X dX1_readAll_39 ⟨hXτ11, (Fr.tr (Fr.tr (Fr.tr Fr.rf (Fr.mo kF (by decide) (by decide))) (Fr.mo h7.2.1 (by decide) (by decide))) (Fr.mo h12.2.1 (by decide) (by decide))), by omega⟩
set_option maxRecDepth 100000 in
theorem c_X1_readAll_1 (l : Launch) (ad : Nat → Nat) (σ : Sg) (d : Int32) (hX : IX σ.1) (hd : d.toInt = 1) : Mt l yX1_readAll cX1_readAll 3 (some .boolean) 17 ad σ [.ref (ad 68), .int d] (oI (fun r τ => IX τ.1 ∧ Fr [69] [(66, 1), (68, 2)] σ τ ∧ (r.toInt = 0 ∨ r.toInt = 1))) := by
  refine Mt_intro (by decide +kernel) (by simp [lg_sl, Value.category]) (fun E C X => ?_)
  show WP E ad 0 [some (.ref (ad 68)), some (.int d), none] [] σ
  refine s_aload_n C dX1_readAll_0 rfl ?_
  refine s_iload_n C dX1_readAll_1 rfl ?_
  refine s_callVI (st := []) C (c_X1_readTest_1 l ad σ d hX (by omega)) cv_X1_57 y68 rfl rfl rfl ⟨by decide, by decide⟩ (Nat.le_of_ble_eq_true rfl) dX1_readAll_2 ?_
  intro r1 τ2 h3
  have hXτ2 := h3.1
  have hRτ2 := h3.2.2
  refine s_if_ne (tgt := 10) C dX1_readAll_5 (by decide) (fun q4 => ?_) (fun q4 => ?_)
  · refine s_iconst C dX1_readAll_10 (by decide) (fun z5 tz5 => ?_)
    refine s_istore_n C dX1_readAll_11 (by decide) (Nat.le_of_ble_eq_true rfl) rfl ?_
    show WP E ad 12 [some (.ref (ad 68)), some (.int d), some (.int z5)] [] τ2
    exact L_readAll_1 l ad E σ d hd C X 100 τ2 z5 (Fr.tr Fr.rf (Fr.mo h3.2.1 (by decide) (by decide))) hXτ2 (by omega) (by omega)
  · refine s_iconst C dX1_readAll_8 (by decide) (fun z6 tz6 => ?_)
    exact s_zret C (by omega) X dX1_readAll_9 ⟨hXτ2, (Fr.tr Fr.rf (Fr.mo h3.2.1 (by decide) (by decide))), by omega⟩
set_option maxRecDepth 100000 in
theorem L_readCondition_1 (l : Launch) (ad : Nat → Nat) (E : Ev) (σ : Sg) (d : Int32) (hd : d.toInt = 1) (C : Cx E l (rmk 18) 3 cX1_readCondition RX1) (X : Rx E ad (some .boolean) (oI (fun r τ => IX τ.1 ∧ Fr [69] [(66, 1), (68, 2)] σ τ ∧ (r.toInt = 0 ∨ r.toInt = 1))))  : ∀ (n : Nat) (τ : Sg) (z : Int32), (Fr [69] [(66, 1), (68, 2)] σ τ) → (IX τ.1) → (0 ≤ z.toInt) → (60 - z.toInt).toNat < n → WP E ad 12 [some (.ref (ad 68)), some (.int d), some (.int z)] [] τ := by
  intro n
  induction n with
  | zero => intro τ z kF hXτ h0 hm9; exact absurd hm9 (Nat.not_lt_zero _)
  | succ n ih =>
    intro τ z kF hXτ h0 hm9
    refine s_iload_n C dX1_readCondition_12 rfl ?_
    refine s_bipush C dX1_readCondition_13 (by decide) (fun z1 tz1 => ?_)
    refine s_icmp_ge (tgt := 52) C dX1_readCondition_15 (by decide) (fun q2 => ?_) (fun q2 => ?_)
    · refine s_iconst C dX1_readCondition_52 (by decide) (fun z3 tz3 => ?_)
      exact s_zret C (by omega) X dX1_readCondition_53 ⟨hXτ, (Fr.tr Fr.rf (Fr.mo kF (by decide) (by decide))), by omega⟩
    · refine s_aload_n C dX1_readCondition_18 rfl ?_
      refine s_getr (k := 0) (j := 66) C y68 fw_X1_19 rfl dX1_readCondition_19 ?_
      refine s_bipush C dX1_readCondition_22 (by decide) (fun z4 tz4 => ?_)
      refine s_callVI (st := []) C (c_X8_accept l ad τ z4 hXτ ) cv_X1_50 y66 rfl rfl rfl ⟨by decide, by decide⟩ (Nat.le_of_ble_eq_true rfl) dX1_readCondition_24 ?_
      intro r5 τ6 h7
      have hXτ6 := h7.1
      have hRτ6 := h7.2.2
      refine s_if_eq (tgt := 52) C dX1_readCondition_27 (by decide) (fun q8 => ?_) (fun q8 => ?_)
      · refine s_iconst C dX1_readCondition_52 (by decide) (fun z9 tz9 => ?_)
        exact s_zret C (by omega) X dX1_readCondition_53 ⟨hXτ6, (Fr.tr (Fr.tr Fr.rf (Fr.mo kF (by decide) (by decide))) (Fr.mo h7.2.1 (by decide) (by decide))), by omega⟩
      · refine s_aload_n C dX1_readCondition_30 rfl ?_
        refine s_iload_n C dX1_readCondition_31 rfl ?_
        refine s_callVI (st := []) C (c_X1_readAll_1 l ad τ6 d hXτ6 (by omega)) cv_X1_46 y68 rfl rfl rfl ⟨by decide, by decide⟩ (Nat.le_of_ble_eq_true rfl) dX1_readCondition_32 ?_
        intro r10 τ11 h12
        have hXτ11 := h12.1
        have hRτ11 := h12.2.2
        refine s_if_ne (tgt := 40) C dX1_readCondition_35 (by decide) (fun q13 => ?_) (fun q13 => ?_)
        · refine s_aload_n C dX1_readCondition_40 rfl ?_
          refine s_bipush C dX1_readCondition_41 (by decide) (fun z14 tz14 => ?_)
          refine s_callVV (st := []) C (c_X1_add l ad τ11 z14 hXτ11 (pv_op (by omega))) cv_X1_53 y68 rfl rfl rfl ⟨by decide, by decide⟩ (Nat.le_of_ble_eq_true rfl) dX1_readCondition_43 ?_
          intro τ16 h17
          have hXτ16 := h17.1
          have hRτ16 := h17.2.2
          refine s_iinc C dX1_readCondition_46 rfl (by decide) rfl (by decide) (by omega) (fun z18 tz18 => ?_)
          show WP E ad 49 [some (.ref (ad 68)), some (.int d), some (.int z18)] [] τ16
          refine s_goto (tgt := 12) C dX1_readCondition_49 (by decide) ?_
          exact ih τ16 z18 (Fr.tr (Fr.tr (Fr.tr (Fr.tr Fr.rf (Fr.mo kF (by decide) (by decide))) (Fr.mo h7.2.1 (by decide) (by decide))) (Fr.mo h12.2.1 (by decide) (by decide))) (Fr.mo h17.2.1 (by decide) (by decide))) hXτ16 (by omega) (by omega)
        · refine s_iconst C dX1_readCondition_38 (by decide) (fun z19 tz19 => ?_)
          exact s_zret C (by omega) X dX1_readCondition_39 ⟨hXτ11, (Fr.tr (Fr.tr (Fr.tr Fr.rf (Fr.mo kF (by decide) (by decide))) (Fr.mo h7.2.1 (by decide) (by decide))) (Fr.mo h12.2.1 (by decide) (by decide))), by omega⟩
set_option maxRecDepth 100000 in
theorem c_X1_readCondition_1 (l : Launch) (ad : Nat → Nat) (σ : Sg) (d : Int32) (hX : IX σ.1) (hd : d.toInt = 1) : Mt l yX1_readCondition cX1_readCondition 3 (some .boolean) 18 ad σ [.ref (ad 68), .int d] (oI (fun r τ => IX τ.1 ∧ Fr [69] [(66, 1), (68, 2)] σ τ ∧ (r.toInt = 0 ∨ r.toInt = 1))) := by
  refine Mt_intro (by decide +kernel) (by simp [lg_sl, Value.category]) (fun E C X => ?_)
  show WP E ad 0 [some (.ref (ad 68)), some (.int d), none] [] σ
  refine s_aload_n C dX1_readCondition_0 rfl ?_
  refine s_iload_n C dX1_readCondition_1 rfl ?_
  refine s_callVI (st := []) C (c_X1_readAll_1 l ad σ d hX (by omega)) cv_X1_46 y68 rfl rfl rfl ⟨by decide, by decide⟩ (Nat.le_of_ble_eq_true rfl) dX1_readCondition_2 ?_
  intro r1 τ2 h3
  have hXτ2 := h3.1
  have hRτ2 := h3.2.2
  refine s_if_ne (tgt := 10) C dX1_readCondition_5 (by decide) (fun q4 => ?_) (fun q4 => ?_)
  · refine s_iconst C dX1_readCondition_10 (by decide) (fun z5 tz5 => ?_)
    refine s_istore_n C dX1_readCondition_11 (by decide) (Nat.le_of_ble_eq_true rfl) rfl ?_
    show WP E ad 12 [some (.ref (ad 68)), some (.int d), some (.int z5)] [] τ2
    exact L_readCondition_1 l ad E σ d hd C X 100 τ2 z5 (Fr.tr Fr.rf (Fr.mo h3.2.1 (by decide) (by decide))) hXτ2 (by omega) (by omega)
  · refine s_iconst C dX1_readCondition_8 (by decide) (fun z6 tz6 => ?_)
    exact s_zret C (by omega) X dX1_readCondition_9 ⟨hXτ2, (Fr.tr Fr.rf (Fr.mo h3.2.1 (by decide) (by decide))), by omega⟩
set_option maxRecDepth 100000 in
theorem c_X1_readTest_0 (l : Launch) (ad : Nat → Nat) (σ : Sg) (d : Int32) (hX : IX σ.1) (hd : d.toInt = 0) : Mt l yX1_readTest cX1_readTest 3 (some .boolean) 19 ad σ [.ref (ad 68), .int d] (oI (fun r τ => IX τ.1 ∧ Fr [69] [(66, 1), (68, 2)] σ τ ∧ (r.toInt = 0 ∨ r.toInt = 1))) := by
  refine Mt_intro (by decide +kernel) (by simp [lg_sl, Value.category]) (fun E C X => ?_)
  show WP E ad 0 [some (.ref (ad 68)), some (.int d), none] [] σ
  refine s_aload_n C dX1_readTest_0 rfl ?_
  refine s_getr (k := 0) (j := 66) C y68 fw_X1_19 rfl dX1_readTest_1 ?_
  refine s_callVI (st := []) C (c_X8_peek l ad σ  hX) cv_X1_60 y66 rfl rfl rfl ⟨by decide, by decide⟩ (Nat.le_of_ble_eq_true rfl) dX1_readTest_4 ?_
  intro r1 τ2 h3
  obtain ⟨eh3, h3⟩ := h3; replace eh3 := eh3.symm; subst eh3
  refine s_istore_n C dX1_readTest_7 (by decide) (Nat.le_of_ble_eq_true rfl) rfl ?_
  show WP E ad 8 [some (.ref (ad 68)), some (.int d), some (.int r1)] [] σ
  refine s_iload_n C dX1_readTest_8 rfl ?_
  refine s_bipush C dX1_readTest_9 (by decide) (fun z4 tz4 => ?_)
  refine s_icmp_eq (tgt := 25) C dX1_readTest_11 (by decide) (fun q5 => ?_) (fun q5 => ?_)
  · refine s_iload_n C dX1_readTest_25 rfl ?_
    refine s_iconst C dX1_readTest_26 (by decide) (fun z6 tz6 => ?_)
    refine s_icmp_lt (tgt := 32) C dX1_readTest_27 (by decide) (fun q7 => ?_) (fun q7 => ?_)
    · refine s_aload_n C dX1_readTest_32 rfl ?_
      refine s_getr (k := 0) (j := 66) C y68 fw_X1_19 rfl dX1_readTest_33 ?_
      refine s_iload_n C dX1_readTest_36 rfl ?_
      refine s_callVI (st := []) C (c_X8_accept l ad σ r1 hX ) cv_X1_50 y66 rfl rfl rfl ⟨by decide, by decide⟩ (Nat.le_of_ble_eq_true rfl) dX1_readTest_37 ?_
      intro r8 τ9 h10
      have hXτ9 := h10.1
      have hRτ9 := h10.2.2
      refine s_pop C dX1_readTest_40 rfl ?_
      refine s_iload_n C dX1_readTest_41 rfl ?_
      refine s_bipush C dX1_readTest_42 (by decide) (fun z11 tz11 => ?_)
      refine s_icmp_ne (tgt := 75) C dX1_readTest_44 (by decide) (fun q12 => ?_) (fun q12 => ?_)
      · refine s_aload_n C dX1_readTest_75 rfl ?_
        refine s_iload_n C dX1_readTest_76 rfl ?_
        refine s_iconst C dX1_readTest_77 (by decide) (fun z13 tz13 => ?_)
        refine s_iadd C dX1_readTest_78 (by omega) (fun z14 tz14 => ?_)
        refine s_callVI (st := []) C (c_X1_readTest_1 l ad τ9 z14 hXτ9 (by omega)) cv_X1_57 y68 rfl rfl rfl ⟨by decide, by decide⟩ (Nat.le_of_ble_eq_true rfl) dX1_readTest_79 ?_
        intro r15 τ16 h17
        have hXτ16 := h17.1
        have hRτ16 := h17.2.2
        refine s_if_ne (tgt := 87) C dX1_readTest_82 (by decide) (fun q18 => ?_) (fun q18 => ?_)
        · refine s_aload_n C dX1_readTest_87 rfl ?_
          refine s_bipush C dX1_readTest_88 (by decide) (fun z19 tz19 => ?_)
          refine s_callVV (st := []) C (c_X1_add l ad τ16 z19 hXτ16 (pv_op (by omega))) cv_X1_53 y68 rfl rfl rfl ⟨by decide, by decide⟩ (Nat.le_of_ble_eq_true rfl) dX1_readTest_90 ?_
          intro τ21 h22
          have hXτ21 := h22.1
          have hRτ21 := h22.2.2
          refine s_iconst C dX1_readTest_93 (by decide) (fun z23 tz23 => ?_)
          exact s_zret C (by omega) X dX1_readTest_94 ⟨hXτ21, (Fr.tr (Fr.tr (Fr.tr Fr.rf (Fr.mo h10.2.1 (by decide) (by decide))) (Fr.mo h17.2.1 (by decide) (by decide))) (Fr.mo h22.2.1 (by decide) (by decide))), by omega⟩
        · refine s_iconst C dX1_readTest_85 (by decide) (fun z24 tz24 => ?_)
          exact s_zret C (by omega) X dX1_readTest_86 ⟨hXτ16, (Fr.tr (Fr.tr Fr.rf (Fr.mo h10.2.1 (by decide) (by decide))) (Fr.mo h17.2.1 (by decide) (by decide))), by omega⟩
      · refine s_aload_n C dX1_readTest_47 rfl ?_
        refine s_iload_n C dX1_readTest_48 rfl ?_
        refine s_iconst C dX1_readTest_49 (by decide) (fun z25 tz25 => ?_)
        refine s_iadd C dX1_readTest_50 (by omega) (fun z26 tz26 => ?_)
        refine s_callVI (st := []) C (c_X1_readCondition_1 l ad τ9 z26 hXτ9 (by omega)) cv_X1_68 y68 rfl rfl rfl ⟨by decide, by decide⟩ (Nat.le_of_ble_eq_true rfl) dX1_readTest_51 ?_
        intro r27 τ28 h29
        have hXτ28 := h29.1
        have hRτ28 := h29.2.2
        refine s_if_eq (tgt := 73) C dX1_readTest_54 (by decide) (fun q30 => ?_) (fun q30 => ?_)
        · refine s_iconst C dX1_readTest_73 (by decide) (fun z31 tz31 => ?_)
          exact s_zret C (by omega) X dX1_readTest_74 ⟨hXτ28, (Fr.tr (Fr.tr Fr.rf (Fr.mo h10.2.1 (by decide) (by decide))) (Fr.mo h29.2.1 (by decide) (by decide))), by omega⟩
        · refine s_aload_n C dX1_readTest_57 rfl ?_
          refine s_getr (k := 0) (j := 66) C y68 fw_X1_19 rfl dX1_readTest_58 ?_
          refine s_bipush C dX1_readTest_61 (by decide) (fun z32 tz32 => ?_)
          refine s_callVI (st := []) C (c_X8_accept l ad τ28 z32 hXτ28 ) cv_X1_50 y66 rfl rfl rfl ⟨by decide, by decide⟩ (Nat.le_of_ble_eq_true rfl) dX1_readTest_63 ?_
          intro r33 τ34 h35
          have hXτ34 := h35.1
          have hRτ34 := h35.2.2
          refine s_if_eq (tgt := 73) C dX1_readTest_66 (by decide) (fun q36 => ?_) (fun q36 => ?_)
          · refine s_iconst C dX1_readTest_73 (by decide) (fun z37 tz37 => ?_)
            exact s_zret C (by omega) X dX1_readTest_74 ⟨hXτ34, (Fr.tr (Fr.tr (Fr.tr Fr.rf (Fr.mo h10.2.1 (by decide) (by decide))) (Fr.mo h29.2.1 (by decide) (by decide))) (Fr.mo h35.2.1 (by decide) (by decide))), by omega⟩
          · refine s_iconst C dX1_readTest_69 (by decide) (fun z38 tz38 => ?_)
            refine s_goto (tgt := 74) C dX1_readTest_70 (by decide) ?_
            exact s_zret C (by omega) X dX1_readTest_74 ⟨hXτ34, (Fr.tr (Fr.tr (Fr.tr Fr.rf (Fr.mo h10.2.1 (by decide) (by decide))) (Fr.mo h29.2.1 (by decide) (by decide))) (Fr.mo h35.2.1 (by decide) (by decide))), by omega⟩
    · omega
  · refine s_iload_n C dX1_readTest_14 rfl ?_
    refine s_bipush C dX1_readTest_15 (by decide) (fun z39 tz39 => ?_)
    refine s_icmp_eq (tgt := 25) C dX1_readTest_17 (by decide) (fun q40 => ?_) (fun q40 => ?_)
    · refine s_iload_n C dX1_readTest_25 rfl ?_
      refine s_iconst C dX1_readTest_26 (by decide) (fun z41 tz41 => ?_)
      refine s_icmp_lt (tgt := 32) C dX1_readTest_27 (by decide) (fun q42 => ?_) (fun q42 => ?_)
      · refine s_aload_n C dX1_readTest_32 rfl ?_
        refine s_getr (k := 0) (j := 66) C y68 fw_X1_19 rfl dX1_readTest_33 ?_
        refine s_iload_n C dX1_readTest_36 rfl ?_
        refine s_callVI (st := []) C (c_X8_accept l ad σ r1 hX ) cv_X1_50 y66 rfl rfl rfl ⟨by decide, by decide⟩ (Nat.le_of_ble_eq_true rfl) dX1_readTest_37 ?_
        intro r43 τ44 h45
        have hXτ44 := h45.1
        have hRτ44 := h45.2.2
        refine s_pop C dX1_readTest_40 rfl ?_
        refine s_iload_n C dX1_readTest_41 rfl ?_
        refine s_bipush C dX1_readTest_42 (by decide) (fun z46 tz46 => ?_)
        refine s_icmp_ne (tgt := 75) C dX1_readTest_44 (by decide) (fun q47 => ?_) (fun q47 => ?_)
        · refine s_aload_n C dX1_readTest_75 rfl ?_
          refine s_iload_n C dX1_readTest_76 rfl ?_
          refine s_iconst C dX1_readTest_77 (by decide) (fun z48 tz48 => ?_)
          refine s_iadd C dX1_readTest_78 (by omega) (fun z49 tz49 => ?_)
          refine s_callVI (st := []) C (c_X1_readTest_1 l ad τ44 z49 hXτ44 (by omega)) cv_X1_57 y68 rfl rfl rfl ⟨by decide, by decide⟩ (Nat.le_of_ble_eq_true rfl) dX1_readTest_79 ?_
          intro r50 τ51 h52
          have hXτ51 := h52.1
          have hRτ51 := h52.2.2
          refine s_if_ne (tgt := 87) C dX1_readTest_82 (by decide) (fun q53 => ?_) (fun q53 => ?_)
          · refine s_aload_n C dX1_readTest_87 rfl ?_
            refine s_bipush C dX1_readTest_88 (by decide) (fun z54 tz54 => ?_)
            refine s_callVV (st := []) C (c_X1_add l ad τ51 z54 hXτ51 (pv_op (by omega))) cv_X1_53 y68 rfl rfl rfl ⟨by decide, by decide⟩ (Nat.le_of_ble_eq_true rfl) dX1_readTest_90 ?_
            intro τ56 h57
            have hXτ56 := h57.1
            have hRτ56 := h57.2.2
            refine s_iconst C dX1_readTest_93 (by decide) (fun z58 tz58 => ?_)
            exact s_zret C (by omega) X dX1_readTest_94 ⟨hXτ56, (Fr.tr (Fr.tr (Fr.tr Fr.rf (Fr.mo h45.2.1 (by decide) (by decide))) (Fr.mo h52.2.1 (by decide) (by decide))) (Fr.mo h57.2.1 (by decide) (by decide))), by omega⟩
          · refine s_iconst C dX1_readTest_85 (by decide) (fun z59 tz59 => ?_)
            exact s_zret C (by omega) X dX1_readTest_86 ⟨hXτ51, (Fr.tr (Fr.tr Fr.rf (Fr.mo h45.2.1 (by decide) (by decide))) (Fr.mo h52.2.1 (by decide) (by decide))), by omega⟩
        · refine s_aload_n C dX1_readTest_47 rfl ?_
          refine s_iload_n C dX1_readTest_48 rfl ?_
          refine s_iconst C dX1_readTest_49 (by decide) (fun z60 tz60 => ?_)
          refine s_iadd C dX1_readTest_50 (by omega) (fun z61 tz61 => ?_)
          refine s_callVI (st := []) C (c_X1_readCondition_1 l ad τ44 z61 hXτ44 (by omega)) cv_X1_68 y68 rfl rfl rfl ⟨by decide, by decide⟩ (Nat.le_of_ble_eq_true rfl) dX1_readTest_51 ?_
          intro r62 τ63 h64
          have hXτ63 := h64.1
          have hRτ63 := h64.2.2
          refine s_if_eq (tgt := 73) C dX1_readTest_54 (by decide) (fun q65 => ?_) (fun q65 => ?_)
          · refine s_iconst C dX1_readTest_73 (by decide) (fun z66 tz66 => ?_)
            exact s_zret C (by omega) X dX1_readTest_74 ⟨hXτ63, (Fr.tr (Fr.tr Fr.rf (Fr.mo h45.2.1 (by decide) (by decide))) (Fr.mo h64.2.1 (by decide) (by decide))), by omega⟩
          · refine s_aload_n C dX1_readTest_57 rfl ?_
            refine s_getr (k := 0) (j := 66) C y68 fw_X1_19 rfl dX1_readTest_58 ?_
            refine s_bipush C dX1_readTest_61 (by decide) (fun z67 tz67 => ?_)
            refine s_callVI (st := []) C (c_X8_accept l ad τ63 z67 hXτ63 ) cv_X1_50 y66 rfl rfl rfl ⟨by decide, by decide⟩ (Nat.le_of_ble_eq_true rfl) dX1_readTest_63 ?_
            intro r68 τ69 h70
            have hXτ69 := h70.1
            have hRτ69 := h70.2.2
            refine s_if_eq (tgt := 73) C dX1_readTest_66 (by decide) (fun q71 => ?_) (fun q71 => ?_)
            · refine s_iconst C dX1_readTest_73 (by decide) (fun z72 tz72 => ?_)
              exact s_zret C (by omega) X dX1_readTest_74 ⟨hXτ69, (Fr.tr (Fr.tr (Fr.tr Fr.rf (Fr.mo h45.2.1 (by decide) (by decide))) (Fr.mo h64.2.1 (by decide) (by decide))) (Fr.mo h70.2.1 (by decide) (by decide))), by omega⟩
            · refine s_iconst C dX1_readTest_69 (by decide) (fun z73 tz73 => ?_)
              refine s_goto (tgt := 74) C dX1_readTest_70 (by decide) ?_
              exact s_zret C (by omega) X dX1_readTest_74 ⟨hXτ69, (Fr.tr (Fr.tr (Fr.tr Fr.rf (Fr.mo h45.2.1 (by decide) (by decide))) (Fr.mo h64.2.1 (by decide) (by decide))) (Fr.mo h70.2.1 (by decide) (by decide))), by omega⟩
      · omega
    · refine s_aload_n C dX1_readTest_20 rfl ?_
      refine s_callVI (st := []) C (c_X1_readComparison l ad σ  hX ) cv_X1_64 y68 rfl rfl rfl ⟨by decide, by decide⟩ (Nat.le_of_ble_eq_true rfl) dX1_readTest_21 ?_
      intro r74 τ75 h76
      have hXτ75 := h76.1
      have hRτ75 := h76.2.2
      exact s_zret C (by omega) X dX1_readTest_24 ⟨hXτ75, (Fr.tr Fr.rf (Fr.mo h76.2.1 (by decide) (by decide))), by omega⟩
set_option maxRecDepth 100000 in
theorem L_readAll_0 (l : Launch) (ad : Nat → Nat) (E : Ev) (σ : Sg) (d : Int32) (hd : d.toInt = 0) (C : Cx E l (rmk 20) 3 cX1_readAll RX1) (X : Rx E ad (some .boolean) (oI (fun r τ => IX τ.1 ∧ Fr [69] [(66, 1), (68, 2)] σ τ ∧ (r.toInt = 0 ∨ r.toInt = 1))))  : ∀ (n : Nat) (τ : Sg) (z : Int32), (Fr [69] [(66, 1), (68, 2)] σ τ) → (IX τ.1) → (0 ≤ z.toInt) → (60 - z.toInt).toNat < n → WP E ad 12 [some (.ref (ad 68)), some (.int d), some (.int z)] [] τ := by
  intro n
  induction n with
  | zero => intro τ z kF hXτ h0 hm9; exact absurd hm9 (Nat.not_lt_zero _)
  | succ n ih =>
    intro τ z kF hXτ h0 hm9
    refine s_iload_n C dX1_readAll_12 rfl ?_
    refine s_bipush C dX1_readAll_13 (by decide) (fun z1 tz1 => ?_)
    refine s_icmp_ge (tgt := 52) C dX1_readAll_15 (by decide) (fun q2 => ?_) (fun q2 => ?_)
    · refine s_iconst C dX1_readAll_52 (by decide) (fun z3 tz3 => ?_)
      exact s_zret C (by omega) X dX1_readAll_53 ⟨hXτ, (Fr.tr Fr.rf (Fr.mo kF (by decide) (by decide))), by omega⟩
    · refine s_aload_n C dX1_readAll_18 rfl ?_
      refine s_getr (k := 0) (j := 66) C y68 fw_X1_19 rfl dX1_readAll_19 ?_
      refine s_bipush C dX1_readAll_22 (by decide) (fun z4 tz4 => ?_)
      refine s_callVI (st := []) C (c_X8_accept l ad τ z4 hXτ ) cv_X1_50 y66 rfl rfl rfl ⟨by decide, by decide⟩ (Nat.le_of_ble_eq_true rfl) dX1_readAll_24 ?_
      intro r5 τ6 h7
      have hXτ6 := h7.1
      have hRτ6 := h7.2.2
      refine s_if_eq (tgt := 52) C dX1_readAll_27 (by decide) (fun q8 => ?_) (fun q8 => ?_)
      · refine s_iconst C dX1_readAll_52 (by decide) (fun z9 tz9 => ?_)
        exact s_zret C (by omega) X dX1_readAll_53 ⟨hXτ6, (Fr.tr (Fr.tr Fr.rf (Fr.mo kF (by decide) (by decide))) (Fr.mo h7.2.1 (by decide) (by decide))), by omega⟩
      · refine s_aload_n C dX1_readAll_30 rfl ?_
        refine s_iload_n C dX1_readAll_31 rfl ?_
        refine s_callVI (st := []) C (c_X1_readTest_0 l ad τ6 d hXτ6 (by omega)) cv_X1_57 y68 rfl rfl rfl ⟨by decide, by decide⟩ (Nat.le_of_ble_eq_true rfl) dX1_readAll_32 ?_
        intro r10 τ11 h12
        have hXτ11 := h12.1
        have hRτ11 := h12.2.2
        refine s_if_ne (tgt := 40) C dX1_readAll_35 (by decide) (fun q13 => ?_) (fun q13 => ?_)
        · refine s_aload_n C dX1_readAll_40 rfl ?_
          refine s_bipush C dX1_readAll_41 (by decide) (fun z14 tz14 => ?_)
          refine s_callVV (st := []) C (c_X1_add l ad τ11 z14 hXτ11 (pv_op (by omega))) cv_X1_53 y68 rfl rfl rfl ⟨by decide, by decide⟩ (Nat.le_of_ble_eq_true rfl) dX1_readAll_43 ?_
          intro τ16 h17
          have hXτ16 := h17.1
          have hRτ16 := h17.2.2
          refine s_iinc C dX1_readAll_46 rfl (by decide) rfl (by decide) (by omega) (fun z18 tz18 => ?_)
          show WP E ad 49 [some (.ref (ad 68)), some (.int d), some (.int z18)] [] τ16
          refine s_goto (tgt := 12) C dX1_readAll_49 (by decide) ?_
          exact ih τ16 z18 (Fr.tr (Fr.tr (Fr.tr (Fr.tr Fr.rf (Fr.mo kF (by decide) (by decide))) (Fr.mo h7.2.1 (by decide) (by decide))) (Fr.mo h12.2.1 (by decide) (by decide))) (Fr.mo h17.2.1 (by decide) (by decide))) hXτ16 (by omega) (by omega)
        · refine s_iconst C dX1_readAll_38 (by decide) (fun z19 tz19 => ?_)
          exact s_zret C (by omega) X dX1_readAll_39 ⟨hXτ11, (Fr.tr (Fr.tr (Fr.tr Fr.rf (Fr.mo kF (by decide) (by decide))) (Fr.mo h7.2.1 (by decide) (by decide))) (Fr.mo h12.2.1 (by decide) (by decide))), by omega⟩
set_option maxRecDepth 100000 in
theorem c_X1_readAll_0 (l : Launch) (ad : Nat → Nat) (σ : Sg) (d : Int32) (hX : IX σ.1) (hd : d.toInt = 0) : Mt l yX1_readAll cX1_readAll 3 (some .boolean) 20 ad σ [.ref (ad 68), .int d] (oI (fun r τ => IX τ.1 ∧ Fr [69] [(66, 1), (68, 2)] σ τ ∧ (r.toInt = 0 ∨ r.toInt = 1))) := by
  refine Mt_intro (by decide +kernel) (by simp [lg_sl, Value.category]) (fun E C X => ?_)
  show WP E ad 0 [some (.ref (ad 68)), some (.int d), none] [] σ
  refine s_aload_n C dX1_readAll_0 rfl ?_
  refine s_iload_n C dX1_readAll_1 rfl ?_
  refine s_callVI (st := []) C (c_X1_readTest_0 l ad σ d hX (by omega)) cv_X1_57 y68 rfl rfl rfl ⟨by decide, by decide⟩ (Nat.le_of_ble_eq_true rfl) dX1_readAll_2 ?_
  intro r1 τ2 h3
  have hXτ2 := h3.1
  have hRτ2 := h3.2.2
  refine s_if_ne (tgt := 10) C dX1_readAll_5 (by decide) (fun q4 => ?_) (fun q4 => ?_)
  · refine s_iconst C dX1_readAll_10 (by decide) (fun z5 tz5 => ?_)
    refine s_istore_n C dX1_readAll_11 (by decide) (Nat.le_of_ble_eq_true rfl) rfl ?_
    show WP E ad 12 [some (.ref (ad 68)), some (.int d), some (.int z5)] [] τ2
    exact L_readAll_0 l ad E σ d hd C X 100 τ2 z5 (Fr.tr Fr.rf (Fr.mo h3.2.1 (by decide) (by decide))) hXτ2 (by omega) (by omega)
  · refine s_iconst C dX1_readAll_8 (by decide) (fun z6 tz6 => ?_)
    exact s_zret C (by omega) X dX1_readAll_9 ⟨hXτ2, (Fr.tr Fr.rf (Fr.mo h3.2.1 (by decide) (by decide))), by omega⟩
set_option maxRecDepth 100000 in
theorem L_readCondition_0 (l : Launch) (ad : Nat → Nat) (E : Ev) (σ : Sg) (d : Int32) (hd : d.toInt = 0) (C : Cx E l (rmk 21) 3 cX1_readCondition RX1) (X : Rx E ad (some .boolean) (oI (fun r τ => IX τ.1 ∧ Fr [69] [(66, 1), (68, 2)] σ τ ∧ (r.toInt = 0 ∨ r.toInt = 1))))  : ∀ (n : Nat) (τ : Sg) (z : Int32), (Fr [69] [(66, 1), (68, 2)] σ τ) → (IX τ.1) → (0 ≤ z.toInt) → (60 - z.toInt).toNat < n → WP E ad 12 [some (.ref (ad 68)), some (.int d), some (.int z)] [] τ := by
  intro n
  induction n with
  | zero => intro τ z kF hXτ h0 hm9; exact absurd hm9 (Nat.not_lt_zero _)
  | succ n ih =>
    intro τ z kF hXτ h0 hm9
    refine s_iload_n C dX1_readCondition_12 rfl ?_
    refine s_bipush C dX1_readCondition_13 (by decide) (fun z1 tz1 => ?_)
    refine s_icmp_ge (tgt := 52) C dX1_readCondition_15 (by decide) (fun q2 => ?_) (fun q2 => ?_)
    · refine s_iconst C dX1_readCondition_52 (by decide) (fun z3 tz3 => ?_)
      exact s_zret C (by omega) X dX1_readCondition_53 ⟨hXτ, (Fr.tr Fr.rf (Fr.mo kF (by decide) (by decide))), by omega⟩
    · refine s_aload_n C dX1_readCondition_18 rfl ?_
      refine s_getr (k := 0) (j := 66) C y68 fw_X1_19 rfl dX1_readCondition_19 ?_
      refine s_bipush C dX1_readCondition_22 (by decide) (fun z4 tz4 => ?_)
      refine s_callVI (st := []) C (c_X8_accept l ad τ z4 hXτ ) cv_X1_50 y66 rfl rfl rfl ⟨by decide, by decide⟩ (Nat.le_of_ble_eq_true rfl) dX1_readCondition_24 ?_
      intro r5 τ6 h7
      have hXτ6 := h7.1
      have hRτ6 := h7.2.2
      refine s_if_eq (tgt := 52) C dX1_readCondition_27 (by decide) (fun q8 => ?_) (fun q8 => ?_)
      · refine s_iconst C dX1_readCondition_52 (by decide) (fun z9 tz9 => ?_)
        exact s_zret C (by omega) X dX1_readCondition_53 ⟨hXτ6, (Fr.tr (Fr.tr Fr.rf (Fr.mo kF (by decide) (by decide))) (Fr.mo h7.2.1 (by decide) (by decide))), by omega⟩
      · refine s_aload_n C dX1_readCondition_30 rfl ?_
        refine s_iload_n C dX1_readCondition_31 rfl ?_
        refine s_callVI (st := []) C (c_X1_readAll_0 l ad τ6 d hXτ6 (by omega)) cv_X1_46 y68 rfl rfl rfl ⟨by decide, by decide⟩ (Nat.le_of_ble_eq_true rfl) dX1_readCondition_32 ?_
        intro r10 τ11 h12
        have hXτ11 := h12.1
        have hRτ11 := h12.2.2
        refine s_if_ne (tgt := 40) C dX1_readCondition_35 (by decide) (fun q13 => ?_) (fun q13 => ?_)
        · refine s_aload_n C dX1_readCondition_40 rfl ?_
          refine s_bipush C dX1_readCondition_41 (by decide) (fun z14 tz14 => ?_)
          refine s_callVV (st := []) C (c_X1_add l ad τ11 z14 hXτ11 (pv_op (by omega))) cv_X1_53 y68 rfl rfl rfl ⟨by decide, by decide⟩ (Nat.le_of_ble_eq_true rfl) dX1_readCondition_43 ?_
          intro τ16 h17
          have hXτ16 := h17.1
          have hRτ16 := h17.2.2
          refine s_iinc C dX1_readCondition_46 rfl (by decide) rfl (by decide) (by omega) (fun z18 tz18 => ?_)
          show WP E ad 49 [some (.ref (ad 68)), some (.int d), some (.int z18)] [] τ16
          refine s_goto (tgt := 12) C dX1_readCondition_49 (by decide) ?_
          exact ih τ16 z18 (Fr.tr (Fr.tr (Fr.tr (Fr.tr Fr.rf (Fr.mo kF (by decide) (by decide))) (Fr.mo h7.2.1 (by decide) (by decide))) (Fr.mo h12.2.1 (by decide) (by decide))) (Fr.mo h17.2.1 (by decide) (by decide))) hXτ16 (by omega) (by omega)
        · refine s_iconst C dX1_readCondition_38 (by decide) (fun z19 tz19 => ?_)
          exact s_zret C (by omega) X dX1_readCondition_39 ⟨hXτ11, (Fr.tr (Fr.tr (Fr.tr Fr.rf (Fr.mo kF (by decide) (by decide))) (Fr.mo h7.2.1 (by decide) (by decide))) (Fr.mo h12.2.1 (by decide) (by decide))), by omega⟩
set_option maxRecDepth 100000 in
theorem c_X1_readCondition_0 (l : Launch) (ad : Nat → Nat) (σ : Sg) (d : Int32) (hX : IX σ.1) (hd : d.toInt = 0) : Mt l yX1_readCondition cX1_readCondition 3 (some .boolean) 21 ad σ [.ref (ad 68), .int d] (oI (fun r τ => IX τ.1 ∧ Fr [69] [(66, 1), (68, 2)] σ τ ∧ (r.toInt = 0 ∨ r.toInt = 1))) := by
  refine Mt_intro (by decide +kernel) (by simp [lg_sl, Value.category]) (fun E C X => ?_)
  show WP E ad 0 [some (.ref (ad 68)), some (.int d), none] [] σ
  refine s_aload_n C dX1_readCondition_0 rfl ?_
  refine s_iload_n C dX1_readCondition_1 rfl ?_
  refine s_callVI (st := []) C (c_X1_readAll_0 l ad σ d hX (by omega)) cv_X1_46 y68 rfl rfl rfl ⟨by decide, by decide⟩ (Nat.le_of_ble_eq_true rfl) dX1_readCondition_2 ?_
  intro r1 τ2 h3
  have hXτ2 := h3.1
  have hRτ2 := h3.2.2
  refine s_if_ne (tgt := 10) C dX1_readCondition_5 (by decide) (fun q4 => ?_) (fun q4 => ?_)
  · refine s_iconst C dX1_readCondition_10 (by decide) (fun z5 tz5 => ?_)
    refine s_istore_n C dX1_readCondition_11 (by decide) (Nat.le_of_ble_eq_true rfl) rfl ?_
    show WP E ad 12 [some (.ref (ad 68)), some (.int d), some (.int z5)] [] τ2
    exact L_readCondition_0 l ad E σ d hd C X 100 τ2 z5 (Fr.tr Fr.rf (Fr.mo h3.2.1 (by decide) (by decide))) hXτ2 (by omega) (by omega)
  · refine s_iconst C dX1_readCondition_8 (by decide) (fun z6 tz6 => ?_)
    exact s_zret C (by omega) X dX1_readCondition_9 ⟨hXτ2, (Fr.tr Fr.rf (Fr.mo h3.2.1 (by decide) (by decide))), by omega⟩
set_option maxRecDepth 100000 in
theorem c_X6_readMessage (l : Launch) (ad : Nat → Nat) (σ : Sg)  (hX : IX σ.1)  : Mt l yX6_readMessage cX6_readMessage 1 (some .boolean) 1 ad σ [.ref (ad 70)] (oI (fun r τ => IX τ.1 ∧ Fr [] [(66, 1), (70, 2), (70, 3), (70, 4), (70, 5)] σ τ ∧ (r.toInt = 0 ∨ r.toInt = 1))) := by
  have hcs := hX.cs
  have hpr := hX.pr
  refine Mt_intro (by decide +kernel) (by simp [lg_sl, Value.category]) (fun E C X => ?_)
  show WP E ad 0 [some (.ref (ad 70))] [] σ
  refine s_aload_n C dX6_readMessage_0 rfl ?_
  refine s_getr (k := 0) (j := 66) C y70 fw_X6_24 rfl dX6_readMessage_1 ?_
  refine s_bipush C dX6_readMessage_4 (by decide) (fun z1 tz1 => ?_)
  refine s_callVI (st := []) C (c_X8_accept l ad σ z1 hX ) cv_X6_41 y66 rfl rfl rfl ⟨by decide, by decide⟩ (Nat.le_of_ble_eq_true rfl) dX6_readMessage_6 ?_
  intro r2 τ3 h4
  have hXτ3 := h4.1
  have hRτ3 := h4.2.2
  have prτ3 := hXτ3.pr
  refine s_if_ne (tgt := 14) C dX6_readMessage_9 (by decide) (fun q5 => ?_) (fun q5 => ?_)
  · refine s_aload_n C dX6_readMessage_14 rfl ?_
    refine s_aload_n C dX6_readMessage_15 rfl ?_
    refine s_getr (k := 0) (j := 66) C y70 fw_X6_24 rfl dX6_readMessage_16 ?_
    refine s_bipush C dX6_readMessage_19 (by decide) (fun z6 tz6 => ?_)
    refine s_callVI (st := [.ref (ad 70)]) C (c_X8_figureBelow l ad τ3 z6 hXτ3 ) cv_X6_53 y66 rfl rfl rfl ⟨by decide, by decide⟩ (Nat.le_of_ble_eq_true rfl) dX6_readMessage_21 ?_
    intro r7 τ8 h9
    have hXτ8 := h9.1
    have hRτ8 := h9.2.2
    have prτ8 := hXτ8.pr
    refine s_put (k := 4) C y70 fw_X6_18 fp_5_4 rfl dX6_readMessage_24 ?_
    refine s_aload_n C dX6_readMessage_27 rfl ?_
    refine s_get (k := 4) (x := r7) C y70 fw_X6_18 rfl rfl dX6_readMessage_28 ?_
    refine s_if_lt (tgt := 38) C dX6_readMessage_31 (by decide) (fun q10 => ?_) (fun q10 => ?_)
    · refine s_iconst C dX6_readMessage_38 (by decide) (fun z11 tz11 => ?_)
      exact s_zret C (by omega) X dX6_readMessage_39 ⟨hXτ8, (Fr.sV (Fr.tr (Fr.tr Fr.rf (Fr.mo h4.2.1 (by decide) (by decide))) (Fr.mo h9.2.1 (by decide) (by decide))) (Or.inr (by decide))), by omega⟩
    · refine s_iconst C dX6_readMessage_34 (by decide) (fun z12 tz12 => ?_)
      refine s_goto (tgt := 39) C dX6_readMessage_35 (by decide) ?_
      exact s_zret C (by omega) X dX6_readMessage_39 ⟨hXτ8, (Fr.sV (Fr.tr (Fr.tr Fr.rf (Fr.mo h4.2.1 (by decide) (by decide))) (Fr.mo h9.2.1 (by decide) (by decide))) (Or.inr (by decide))), by omega⟩
  · refine s_iconst C dX6_readMessage_12 (by decide) (fun z13 tz13 => ?_)
    exact s_zret C (by omega) X dX6_readMessage_13 ⟨hXτ3, (Fr.tr Fr.rf (Fr.mo h4.2.1 (by decide) (by decide))), by omega⟩
set_option maxRecDepth 100000 in
theorem c_X6_readValue (l : Launch) (ad : Nat → Nat) (σ : Sg)  (hX : IX σ.1)  : Mt l yX6_readValue cX6_readValue 3 (some .boolean) 1 ad σ [.ref (ad 70)] (oI (fun r τ => IX τ.1 ∧ Fr [] [(66, 1), (70, 2), (70, 3), (70, 4), (70, 5)] σ τ ∧ (r.toInt = 0 ∨ r.toInt = 1))) := by
  have hcs := hX.cs
  have hpr := hX.pr
  refine Mt_intro (by decide +kernel) (by simp [lg_sl, Value.category]) (fun E C X => ?_)
  show WP E ad 0 [some (.ref (ad 70)), none, none] [] σ
  refine s_aload_n C dX6_readValue_0 rfl ?_
  refine s_getr (k := 0) (j := 66) C y70 fw_X6_24 rfl dX6_readValue_1 ?_
  refine s_bipush C dX6_readValue_4 (by decide) (fun z1 tz1 => ?_)
  refine s_callVI (st := []) C (c_X8_accept l ad σ z1 hX ) cv_X6_41 y66 rfl rfl rfl ⟨by decide, by decide⟩ (Nat.le_of_ble_eq_true rfl) dX6_readValue_6 ?_
  intro r2 τ3 h4
  have hXτ3 := h4.1
  have hRτ3 := h4.2.2
  have prτ3 := hXτ3.pr
  refine s_istore_n C dX6_readValue_9 (by decide) (Nat.le_of_ble_eq_true rfl) rfl ?_
  show WP E ad 10 [some (.ref (ad 70)), some (.int r2), none] [] τ3
  refine s_aload_n C dX6_readValue_10 rfl ?_
  refine s_getr (k := 0) (j := 66) C y70 fw_X6_24 rfl dX6_readValue_11 ?_
  refine s_callVI (st := []) C (c_X8_number l ad τ3  hXτ3 ) cv_X6_63 y66 rfl rfl rfl ⟨by decide, by decide⟩ (Nat.le_of_ble_eq_true rfl) dX6_readValue_14 ?_
  intro r5 τ6 h7
  have hXτ6 := h7.1
  have hRτ6 := h7.2.2
  have prτ6 := hXτ6.pr
  refine s_istore_n C dX6_readValue_17 (by decide) (Nat.le_of_ble_eq_true rfl) rfl ?_
  show WP E ad 18 [some (.ref (ad 70)), some (.int r2), some (.int r5)] [] τ6
  refine s_aload_n C dX6_readValue_18 rfl ?_
  refine s_iload_n C dX6_readValue_19 rfl ?_
  refine s_if_eq (tgt := 28) C dX6_readValue_20 (by decide) (fun q8 => ?_) (fun q8 => ?_)
  · refine s_iload_n C dX6_readValue_28 rfl ?_
    refine s_put (k := 5) C y70 fw_X6_21 fp_5_5 rfl dX6_readValue_29 ?_
    refine s_iload_n C dX6_readValue_32 rfl ?_
    refine s_if_lt (tgt := 40) C dX6_readValue_33 (by decide) (fun q9 => ?_) (fun q9 => ?_)
    · refine s_iconst C dX6_readValue_40 (by decide) (fun z10 tz10 => ?_)
      exact s_zret C (by omega) X dX6_readValue_41 ⟨hXτ6, (Fr.sV (Fr.tr (Fr.tr Fr.rf (Fr.mo h4.2.1 (by decide) (by decide))) (Fr.mo h7.2.1 (by decide) (by decide))) (Or.inr (by decide))), by omega⟩
    · refine s_iconst C dX6_readValue_36 (by decide) (fun z11 tz11 => ?_)
      refine s_goto (tgt := 41) C dX6_readValue_37 (by decide) ?_
      exact s_zret C (by omega) X dX6_readValue_41 ⟨hXτ6, (Fr.sV (Fr.tr (Fr.tr Fr.rf (Fr.mo h4.2.1 (by decide) (by decide))) (Fr.mo h7.2.1 (by decide) (by decide))) (Or.inr (by decide))), by omega⟩
  · refine s_iload_n C dX6_readValue_23 rfl ?_
    refine s_inegU C dX6_readValue_24 (fun z12 => ?_)
    refine s_goto (tgt := 29) C dX6_readValue_25 (by decide) ?_
    refine s_put (k := 5) C y70 fw_X6_21 fp_5_5 rfl dX6_readValue_29 ?_
    refine s_iload_n C dX6_readValue_32 rfl ?_
    refine s_if_lt (tgt := 40) C dX6_readValue_33 (by decide) (fun q13 => ?_) (fun q13 => ?_)
    · refine s_iconst C dX6_readValue_40 (by decide) (fun z14 tz14 => ?_)
      exact s_zret C (by omega) X dX6_readValue_41 ⟨hXτ6, (Fr.sV (Fr.tr (Fr.tr Fr.rf (Fr.mo h4.2.1 (by decide) (by decide))) (Fr.mo h7.2.1 (by decide) (by decide))) (Or.inr (by decide))), by omega⟩
    · refine s_iconst C dX6_readValue_36 (by decide) (fun z15 tz15 => ?_)
      refine s_goto (tgt := 41) C dX6_readValue_37 (by decide) ?_
      exact s_zret C (by omega) X dX6_readValue_41 ⟨hXτ6, (Fr.sV (Fr.tr (Fr.tr Fr.rf (Fr.mo h4.2.1 (by decide) (by decide))) (Fr.mo h7.2.1 (by decide) (by decide))) (Or.inr (by decide))), by omega⟩
set_option maxRecDepth 100000 in
theorem c_X6_readStatement (l : Launch) (ad : Nat → Nat) (σ : Sg)  (hX : IX σ.1)  : Mt l yX6_readStatement cX6_readStatement 1 (some .boolean) 2 ad σ [.ref (ad 70)] (oI (fun r τ => IX τ.1 ∧ Fr [] [(66, 1), (70, 2), (70, 3), (70, 4), (70, 5)] σ τ ∧ (r.toInt = 0 ∨ r.toInt = 1))) := by
  have hcs := hX.cs
  have hpr := hX.pr
  refine Mt_intro (by decide +kernel) (by simp [lg_sl, Value.category]) (fun E C X => ?_)
  show WP E ad 0 [some (.ref (ad 70))] [] σ
  refine s_aload_n C dX6_readStatement_0 rfl ?_
  refine s_aload_n C dX6_readStatement_1 rfl ?_
  refine s_getr (k := 0) (j := 66) C y70 fw_X6_24 rfl dX6_readStatement_2 ?_
  refine s_bipush C dX6_readStatement_5 (by decide) (fun z1 tz1 => ?_)
  refine s_callVI (st := [.ref (ad 70)]) C (c_X8_accept l ad σ z1 hX ) cv_X6_41 y66 rfl rfl rfl ⟨by decide, by decide⟩ (Nat.le_of_ble_eq_true rfl) dX6_readStatement_7 ?_
  intro r2 τ3 h4
  have hXτ3 := h4.1
  have hRτ3 := h4.2.2
  have prτ3 := hXτ3.pr
  refine s_if_eq (tgt := 17) C dX6_readStatement_10 (by decide) (fun q5 => ?_) (fun q5 => ?_)
  · refine s_aload_n C dX6_readStatement_17 rfl ?_
    refine s_getr (k := 0) (j := 66) C y70 fw_X6_24 rfl dX6_readStatement_18 ?_
    refine s_bipush C dX6_readStatement_21 (by decide) (fun z6 tz6 => ?_)
    refine s_callVI (st := [.ref (ad 70)]) C (c_X8_accept l ad τ3 z6 hXτ3 ) cv_X6_41 y66 rfl rfl rfl ⟨by decide, by decide⟩ (Nat.le_of_ble_eq_true rfl) dX6_readStatement_23 ?_
    intro r7 τ8 h9
    have hXτ8 := h9.1
    have hRτ8 := h9.2.2
    have prτ8 := hXτ8.pr
    refine s_if_eq (tgt := 33) C dX6_readStatement_26 (by decide) (fun q10 => ?_) (fun q10 => ?_)
    · refine s_aload_n C dX6_readStatement_33 rfl ?_
      refine s_getr (k := 0) (j := 66) C y70 fw_X6_24 rfl dX6_readStatement_34 ?_
      refine s_bipush C dX6_readStatement_37 (by decide) (fun z11 tz11 => ?_)
      refine s_callVI (st := [.ref (ad 70)]) C (c_X8_accept l ad τ8 z11 hXτ8 ) cv_X6_41 y66 rfl rfl rfl ⟨by decide, by decide⟩ (Nat.le_of_ble_eq_true rfl) dX6_readStatement_39 ?_
      intro r12 τ13 h14
      have hXτ13 := h14.1
      have hRτ13 := h14.2.2
      have prτ13 := hXτ13.pr
      refine s_if_eq (tgt := 49) C dX6_readStatement_42 (by decide) (fun q15 => ?_) (fun q15 => ?_)
      · refine s_iconst C dX6_readStatement_49 (by decide) (fun z16 tz16 => ?_)
        refine s_put (k := 2) C y70 fw_X6_9 fp_5_2 rfl dX6_readStatement_50 ?_
        refine s_aload_n C dX6_readStatement_53 rfl ?_
        refine s_get (k := 2) (x := z16) C y70 fw_X6_9 rfl rfl dX6_readStatement_54 ?_
        refine s_if_lt (tgt := 72) C dX6_readStatement_57 (by decide) (fun q17 => ?_) (fun q17 => ?_)
        · refine s_iconst C dX6_readStatement_72 (by decide) (fun z18 tz18 => ?_)
          exact s_zret C (by omega) X dX6_readStatement_73 ⟨hXτ13, (Fr.sV (Fr.tr (Fr.tr (Fr.tr Fr.rf (Fr.mo h4.2.1 (by decide) (by decide))) (Fr.mo h9.2.1 (by decide) (by decide))) (Fr.mo h14.2.1 (by decide) (by decide))) (Or.inr (by decide))), by omega⟩
        · refine s_aload_n C dX6_readStatement_60 rfl ?_
          refine s_getr (k := 0) (j := 66) C y70 fw_X6_24 rfl dX6_readStatement_61 ?_
          refine s_bipush C dX6_readStatement_64 (by decide) (fun z19 tz19 => ?_)
          refine s_callVI (st := []) C (c_X8_accept l ad (sV τ13 70 2 z16) z19 hXτ13 ) cv_X6_41 y66 rfl rfl rfl ⟨by decide, by decide⟩ (Nat.le_of_ble_eq_true rfl) dX6_readStatement_66 ?_
          intro r20 τ21 h22
          have hXτ21 := h22.1
          have hRτ21 := h22.2.2
          have prτ21 := hXτ21.pr
          refine s_if_ne (tgt := 74) C dX6_readStatement_69 (by decide) (fun q23 => ?_) (fun q23 => ?_)
          · refine s_aload_n C dX6_readStatement_74 rfl ?_
            refine s_aload_n C dX6_readStatement_75 rfl ?_
            refine s_getr (k := 0) (j := 66) C y70 fw_X6_24 rfl dX6_readStatement_76 ?_
            refine s_aload_n C dX6_readStatement_79 rfl ?_
            refine s_getr (k := 1) (j := 1) C y70 fw_X6_28 rfl dX6_readStatement_80 ?_
            refine s_get (k := 0) (x := (τ21.1 1 0)) C y1 fw_X6_48 rfl rfl dX6_readStatement_83 ?_
            refine s_callVI (st := [.ref (ad 70)]) C (c_X8_figureBelow l ad τ21 ((τ21.1 1 0)) hXτ21 ) cv_X6_53 y66 rfl rfl rfl ⟨by decide, by decide⟩ (Nat.le_of_ble_eq_true rfl) dX6_readStatement_86 ?_
            intro r24 τ25 h26
            have hXτ25 := h26.1
            have hRτ25 := h26.2.2
            have prτ25 := hXτ25.pr
            refine s_put (k := 3) C y70 fw_X6_15 fp_5_3 rfl dX6_readStatement_89 ?_
            refine s_aload_n C dX6_readStatement_92 rfl ?_
            refine s_get (k := 3) (x := r24) C y70 fw_X6_15 rfl rfl dX6_readStatement_93 ?_
            refine s_if_lt (tgt := 114) C dX6_readStatement_96 (by decide) (fun q27 => ?_) (fun q27 => ?_)
            · refine s_iconst C dX6_readStatement_114 (by decide) (fun z28 tz28 => ?_)
              exact s_zret C (by omega) X dX6_readStatement_115 ⟨hXτ25, (Fr.sV (Fr.tr (Fr.tr (Fr.sV (Fr.tr (Fr.tr (Fr.tr Fr.rf (Fr.mo h4.2.1 (by decide) (by decide))) (Fr.mo h9.2.1 (by decide) (by decide))) (Fr.mo h14.2.1 (by decide) (by decide))) (Or.inr (by decide))) (Fr.mo h22.2.1 (by decide) (by decide))) (Fr.mo h26.2.1 (by decide) (by decide))) (Or.inr (by decide))), by omega⟩
            · refine s_aload_n C dX6_readStatement_99 rfl ?_
              refine s_get (k := 2) (x := (τ25.1 70 2)) C y70 fw_X6_9 rfl rfl dX6_readStatement_100 ?_
              refine s_iconst C dX6_readStatement_103 (by decide) (fun z29 tz29 => ?_)
              refine s_icmp_ne (tgt := 116) C dX6_readStatement_104 (by decide) (fun q30 => ?_) (fun q30 => ?_)
              · refine s_aload_n C dX6_readStatement_116 rfl ?_
                refine s_getr (k := 0) (j := 66) C y70 fw_X6_24 rfl dX6_readStatement_117 ?_
                refine s_bipush C dX6_readStatement_120 (by decide) (fun z31 tz31 => ?_)
                refine s_callVI (st := []) C (c_X8_accept l ad (sV τ25 70 3 r24) z31 hXτ25 ) cv_X6_41 y66 rfl rfl rfl ⟨by decide, by decide⟩ (Nat.le_of_ble_eq_true rfl) dX6_readStatement_122 ?_
                intro r32 τ33 h34
                have hXτ33 := h34.1
                have hRτ33 := h34.2.2
                have prτ33 := hXτ33.pr
                refine s_if_eq (tgt := 139) C dX6_readStatement_125 (by decide) (fun q35 => ?_) (fun q35 => ?_)
                · refine s_iconst C dX6_readStatement_139 (by decide) (fun z36 tz36 => ?_)
                  exact s_zret C (by omega) X dX6_readStatement_140 ⟨hXτ33, (Fr.tr (Fr.sV (Fr.tr (Fr.tr (Fr.sV (Fr.tr (Fr.tr (Fr.tr Fr.rf (Fr.mo h4.2.1 (by decide) (by decide))) (Fr.mo h9.2.1 (by decide) (by decide))) (Fr.mo h14.2.1 (by decide) (by decide))) (Or.inr (by decide))) (Fr.mo h22.2.1 (by decide) (by decide))) (Fr.mo h26.2.1 (by decide) (by decide))) (Or.inr (by decide))) (Fr.mo h34.2.1 (by decide) (by decide))), by omega⟩
                · refine s_aload_n C dX6_readStatement_128 rfl ?_
                  refine s_callVI (st := []) C (c_X6_readValue l ad τ33  hXτ33 ) cv_X6_60 y70 rfl rfl rfl ⟨by decide, by decide⟩ (Nat.le_of_ble_eq_true rfl) dX6_readStatement_129 ?_
                  intro r37 τ38 h39
                  have hXτ38 := h39.1
                  have hRτ38 := h39.2.2
                  have prτ38 := hXτ38.pr
                  refine s_if_eq (tgt := 139) C dX6_readStatement_132 (by decide) (fun q40 => ?_) (fun q40 => ?_)
                  · refine s_iconst C dX6_readStatement_139 (by decide) (fun z41 tz41 => ?_)
                    exact s_zret C (by omega) X dX6_readStatement_140 ⟨hXτ38, (Fr.tr (Fr.tr (Fr.sV (Fr.tr (Fr.tr (Fr.sV (Fr.tr (Fr.tr (Fr.tr Fr.rf (Fr.mo h4.2.1 (by decide) (by decide))) (Fr.mo h9.2.1 (by decide) (by decide))) (Fr.mo h14.2.1 (by decide) (by decide))) (Or.inr (by decide))) (Fr.mo h22.2.1 (by decide) (by decide))) (Fr.mo h26.2.1 (by decide) (by decide))) (Or.inr (by decide))) (Fr.mo h34.2.1 (by decide) (by decide))) (Fr.mo h39.2.1 (by decide) (by decide))), by omega⟩
                  · refine s_iconst C dX6_readStatement_135 (by decide) (fun z42 tz42 => ?_)
                    refine s_goto (tgt := 140) C dX6_readStatement_136 (by decide) ?_
                    exact s_zret C (by omega) X dX6_readStatement_140 ⟨hXτ38, (Fr.tr (Fr.tr (Fr.sV (Fr.tr (Fr.tr (Fr.sV (Fr.tr (Fr.tr (Fr.tr Fr.rf (Fr.mo h4.2.1 (by decide) (by decide))) (Fr.mo h9.2.1 (by decide) (by decide))) (Fr.mo h14.2.1 (by decide) (by decide))) (Or.inr (by decide))) (Fr.mo h22.2.1 (by decide) (by decide))) (Fr.mo h26.2.1 (by decide) (by decide))) (Or.inr (by decide))) (Fr.mo h34.2.1 (by decide) (by decide))) (Fr.mo h39.2.1 (by decide) (by decide))), by omega⟩
              · refine s_aload_n C dX6_readStatement_107 rfl ?_
                refine s_callVI (st := []) C (c_X6_readMessage l ad (sV τ25 70 3 r24)  hXτ25 ) cv_X6_57 y70 rfl rfl rfl ⟨by decide, by decide⟩ (Nat.le_of_ble_eq_true rfl) dX6_readStatement_108 ?_
                intro r43 τ44 h45
                have hXτ44 := h45.1
                have hRτ44 := h45.2.2
                have prτ44 := hXτ44.pr
                refine s_if_ne (tgt := 116) C dX6_readStatement_111 (by decide) (fun q46 => ?_) (fun q46 => ?_)
                · refine s_aload_n C dX6_readStatement_116 rfl ?_
                  refine s_getr (k := 0) (j := 66) C y70 fw_X6_24 rfl dX6_readStatement_117 ?_
                  refine s_bipush C dX6_readStatement_120 (by decide) (fun z47 tz47 => ?_)
                  refine s_callVI (st := []) C (c_X8_accept l ad τ44 z47 hXτ44 ) cv_X6_41 y66 rfl rfl rfl ⟨by decide, by decide⟩ (Nat.le_of_ble_eq_true rfl) dX6_readStatement_122 ?_
                  intro r48 τ49 h50
                  have hXτ49 := h50.1
                  have hRτ49 := h50.2.2
                  have prτ49 := hXτ49.pr
                  refine s_if_eq (tgt := 139) C dX6_readStatement_125 (by decide) (fun q51 => ?_) (fun q51 => ?_)
                  · refine s_iconst C dX6_readStatement_139 (by decide) (fun z52 tz52 => ?_)
                    exact s_zret C (by omega) X dX6_readStatement_140 ⟨hXτ49, (Fr.tr (Fr.tr (Fr.sV (Fr.tr (Fr.tr (Fr.sV (Fr.tr (Fr.tr (Fr.tr Fr.rf (Fr.mo h4.2.1 (by decide) (by decide))) (Fr.mo h9.2.1 (by decide) (by decide))) (Fr.mo h14.2.1 (by decide) (by decide))) (Or.inr (by decide))) (Fr.mo h22.2.1 (by decide) (by decide))) (Fr.mo h26.2.1 (by decide) (by decide))) (Or.inr (by decide))) (Fr.mo h45.2.1 (by decide) (by decide))) (Fr.mo h50.2.1 (by decide) (by decide))), by omega⟩
                  · refine s_aload_n C dX6_readStatement_128 rfl ?_
                    refine s_callVI (st := []) C (c_X6_readValue l ad τ49  hXτ49 ) cv_X6_60 y70 rfl rfl rfl ⟨by decide, by decide⟩ (Nat.le_of_ble_eq_true rfl) dX6_readStatement_129 ?_
                    intro r53 τ54 h55
                    have hXτ54 := h55.1
                    have hRτ54 := h55.2.2
                    have prτ54 := hXτ54.pr
                    refine s_if_eq (tgt := 139) C dX6_readStatement_132 (by decide) (fun q56 => ?_) (fun q56 => ?_)
                    · refine s_iconst C dX6_readStatement_139 (by decide) (fun z57 tz57 => ?_)
                      exact s_zret C (by omega) X dX6_readStatement_140 ⟨hXτ54, (Fr.tr (Fr.tr (Fr.tr (Fr.sV (Fr.tr (Fr.tr (Fr.sV (Fr.tr (Fr.tr (Fr.tr Fr.rf (Fr.mo h4.2.1 (by decide) (by decide))) (Fr.mo h9.2.1 (by decide) (by decide))) (Fr.mo h14.2.1 (by decide) (by decide))) (Or.inr (by decide))) (Fr.mo h22.2.1 (by decide) (by decide))) (Fr.mo h26.2.1 (by decide) (by decide))) (Or.inr (by decide))) (Fr.mo h45.2.1 (by decide) (by decide))) (Fr.mo h50.2.1 (by decide) (by decide))) (Fr.mo h55.2.1 (by decide) (by decide))), by omega⟩
                    · refine s_iconst C dX6_readStatement_135 (by decide) (fun z58 tz58 => ?_)
                      refine s_goto (tgt := 140) C dX6_readStatement_136 (by decide) ?_
                      exact s_zret C (by omega) X dX6_readStatement_140 ⟨hXτ54, (Fr.tr (Fr.tr (Fr.tr (Fr.sV (Fr.tr (Fr.tr (Fr.sV (Fr.tr (Fr.tr (Fr.tr Fr.rf (Fr.mo h4.2.1 (by decide) (by decide))) (Fr.mo h9.2.1 (by decide) (by decide))) (Fr.mo h14.2.1 (by decide) (by decide))) (Or.inr (by decide))) (Fr.mo h22.2.1 (by decide) (by decide))) (Fr.mo h26.2.1 (by decide) (by decide))) (Or.inr (by decide))) (Fr.mo h45.2.1 (by decide) (by decide))) (Fr.mo h50.2.1 (by decide) (by decide))) (Fr.mo h55.2.1 (by decide) (by decide))), by omega⟩
                · refine s_iconst C dX6_readStatement_114 (by decide) (fun z59 tz59 => ?_)
                  exact s_zret C (by omega) X dX6_readStatement_115 ⟨hXτ44, (Fr.tr (Fr.sV (Fr.tr (Fr.tr (Fr.sV (Fr.tr (Fr.tr (Fr.tr Fr.rf (Fr.mo h4.2.1 (by decide) (by decide))) (Fr.mo h9.2.1 (by decide) (by decide))) (Fr.mo h14.2.1 (by decide) (by decide))) (Or.inr (by decide))) (Fr.mo h22.2.1 (by decide) (by decide))) (Fr.mo h26.2.1 (by decide) (by decide))) (Or.inr (by decide))) (Fr.mo h45.2.1 (by decide) (by decide))), by omega⟩
          · refine s_iconst C dX6_readStatement_72 (by decide) (fun z60 tz60 => ?_)
            exact s_zret C (by omega) X dX6_readStatement_73 ⟨hXτ21, (Fr.tr (Fr.sV (Fr.tr (Fr.tr (Fr.tr Fr.rf (Fr.mo h4.2.1 (by decide) (by decide))) (Fr.mo h9.2.1 (by decide) (by decide))) (Fr.mo h14.2.1 (by decide) (by decide))) (Or.inr (by decide))) (Fr.mo h22.2.1 (by decide) (by decide))), by omega⟩
      · refine s_iconst C dX6_readStatement_45 (by decide) (fun z61 tz61 => ?_)
        refine s_goto (tgt := 50) C dX6_readStatement_46 (by decide) ?_
        refine s_put (k := 2) C y70 fw_X6_9 fp_5_2 rfl dX6_readStatement_50 ?_
        refine s_aload_n C dX6_readStatement_53 rfl ?_
        refine s_get (k := 2) (x := z61) C y70 fw_X6_9 rfl rfl dX6_readStatement_54 ?_
        refine s_if_lt (tgt := 72) C dX6_readStatement_57 (by decide) (fun q62 => ?_) (fun q62 => ?_)
        · refine s_iconst C dX6_readStatement_72 (by decide) (fun z63 tz63 => ?_)
          exact s_zret C (by omega) X dX6_readStatement_73 ⟨hXτ13, (Fr.sV (Fr.tr (Fr.tr (Fr.tr Fr.rf (Fr.mo h4.2.1 (by decide) (by decide))) (Fr.mo h9.2.1 (by decide) (by decide))) (Fr.mo h14.2.1 (by decide) (by decide))) (Or.inr (by decide))), by omega⟩
        · refine s_aload_n C dX6_readStatement_60 rfl ?_
          refine s_getr (k := 0) (j := 66) C y70 fw_X6_24 rfl dX6_readStatement_61 ?_
          refine s_bipush C dX6_readStatement_64 (by decide) (fun z64 tz64 => ?_)
          refine s_callVI (st := []) C (c_X8_accept l ad (sV τ13 70 2 z61) z64 hXτ13 ) cv_X6_41 y66 rfl rfl rfl ⟨by decide, by decide⟩ (Nat.le_of_ble_eq_true rfl) dX6_readStatement_66 ?_
          intro r65 τ66 h67
          have hXτ66 := h67.1
          have hRτ66 := h67.2.2
          have prτ66 := hXτ66.pr
          refine s_if_ne (tgt := 74) C dX6_readStatement_69 (by decide) (fun q68 => ?_) (fun q68 => ?_)
          · refine s_aload_n C dX6_readStatement_74 rfl ?_
            refine s_aload_n C dX6_readStatement_75 rfl ?_
            refine s_getr (k := 0) (j := 66) C y70 fw_X6_24 rfl dX6_readStatement_76 ?_
            refine s_aload_n C dX6_readStatement_79 rfl ?_
            refine s_getr (k := 1) (j := 1) C y70 fw_X6_28 rfl dX6_readStatement_80 ?_
            refine s_get (k := 0) (x := (τ66.1 1 0)) C y1 fw_X6_48 rfl rfl dX6_readStatement_83 ?_
            refine s_callVI (st := [.ref (ad 70)]) C (c_X8_figureBelow l ad τ66 ((τ66.1 1 0)) hXτ66 ) cv_X6_53 y66 rfl rfl rfl ⟨by decide, by decide⟩ (Nat.le_of_ble_eq_true rfl) dX6_readStatement_86 ?_
            intro r69 τ70 h71
            have hXτ70 := h71.1
            have hRτ70 := h71.2.2
            have prτ70 := hXτ70.pr
            refine s_put (k := 3) C y70 fw_X6_15 fp_5_3 rfl dX6_readStatement_89 ?_
            refine s_aload_n C dX6_readStatement_92 rfl ?_
            refine s_get (k := 3) (x := r69) C y70 fw_X6_15 rfl rfl dX6_readStatement_93 ?_
            refine s_if_lt (tgt := 114) C dX6_readStatement_96 (by decide) (fun q72 => ?_) (fun q72 => ?_)
            · refine s_iconst C dX6_readStatement_114 (by decide) (fun z73 tz73 => ?_)
              exact s_zret C (by omega) X dX6_readStatement_115 ⟨hXτ70, (Fr.sV (Fr.tr (Fr.tr (Fr.sV (Fr.tr (Fr.tr (Fr.tr Fr.rf (Fr.mo h4.2.1 (by decide) (by decide))) (Fr.mo h9.2.1 (by decide) (by decide))) (Fr.mo h14.2.1 (by decide) (by decide))) (Or.inr (by decide))) (Fr.mo h67.2.1 (by decide) (by decide))) (Fr.mo h71.2.1 (by decide) (by decide))) (Or.inr (by decide))), by omega⟩
            · refine s_aload_n C dX6_readStatement_99 rfl ?_
              refine s_get (k := 2) (x := (τ70.1 70 2)) C y70 fw_X6_9 rfl rfl dX6_readStatement_100 ?_
              refine s_iconst C dX6_readStatement_103 (by decide) (fun z74 tz74 => ?_)
              refine s_icmp_ne (tgt := 116) C dX6_readStatement_104 (by decide) (fun q75 => ?_) (fun q75 => ?_)
              · refine s_aload_n C dX6_readStatement_116 rfl ?_
                refine s_getr (k := 0) (j := 66) C y70 fw_X6_24 rfl dX6_readStatement_117 ?_
                refine s_bipush C dX6_readStatement_120 (by decide) (fun z76 tz76 => ?_)
                refine s_callVI (st := []) C (c_X8_accept l ad (sV τ70 70 3 r69) z76 hXτ70 ) cv_X6_41 y66 rfl rfl rfl ⟨by decide, by decide⟩ (Nat.le_of_ble_eq_true rfl) dX6_readStatement_122 ?_
                intro r77 τ78 h79
                have hXτ78 := h79.1
                have hRτ78 := h79.2.2
                have prτ78 := hXτ78.pr
                refine s_if_eq (tgt := 139) C dX6_readStatement_125 (by decide) (fun q80 => ?_) (fun q80 => ?_)
                · refine s_iconst C dX6_readStatement_139 (by decide) (fun z81 tz81 => ?_)
                  exact s_zret C (by omega) X dX6_readStatement_140 ⟨hXτ78, (Fr.tr (Fr.sV (Fr.tr (Fr.tr (Fr.sV (Fr.tr (Fr.tr (Fr.tr Fr.rf (Fr.mo h4.2.1 (by decide) (by decide))) (Fr.mo h9.2.1 (by decide) (by decide))) (Fr.mo h14.2.1 (by decide) (by decide))) (Or.inr (by decide))) (Fr.mo h67.2.1 (by decide) (by decide))) (Fr.mo h71.2.1 (by decide) (by decide))) (Or.inr (by decide))) (Fr.mo h79.2.1 (by decide) (by decide))), by omega⟩
                · refine s_aload_n C dX6_readStatement_128 rfl ?_
                  refine s_callVI (st := []) C (c_X6_readValue l ad τ78  hXτ78 ) cv_X6_60 y70 rfl rfl rfl ⟨by decide, by decide⟩ (Nat.le_of_ble_eq_true rfl) dX6_readStatement_129 ?_
                  intro r82 τ83 h84
                  have hXτ83 := h84.1
                  have hRτ83 := h84.2.2
                  have prτ83 := hXτ83.pr
                  refine s_if_eq (tgt := 139) C dX6_readStatement_132 (by decide) (fun q85 => ?_) (fun q85 => ?_)
                  · refine s_iconst C dX6_readStatement_139 (by decide) (fun z86 tz86 => ?_)
                    exact s_zret C (by omega) X dX6_readStatement_140 ⟨hXτ83, (Fr.tr (Fr.tr (Fr.sV (Fr.tr (Fr.tr (Fr.sV (Fr.tr (Fr.tr (Fr.tr Fr.rf (Fr.mo h4.2.1 (by decide) (by decide))) (Fr.mo h9.2.1 (by decide) (by decide))) (Fr.mo h14.2.1 (by decide) (by decide))) (Or.inr (by decide))) (Fr.mo h67.2.1 (by decide) (by decide))) (Fr.mo h71.2.1 (by decide) (by decide))) (Or.inr (by decide))) (Fr.mo h79.2.1 (by decide) (by decide))) (Fr.mo h84.2.1 (by decide) (by decide))), by omega⟩
                  · refine s_iconst C dX6_readStatement_135 (by decide) (fun z87 tz87 => ?_)
                    refine s_goto (tgt := 140) C dX6_readStatement_136 (by decide) ?_
                    exact s_zret C (by omega) X dX6_readStatement_140 ⟨hXτ83, (Fr.tr (Fr.tr (Fr.sV (Fr.tr (Fr.tr (Fr.sV (Fr.tr (Fr.tr (Fr.tr Fr.rf (Fr.mo h4.2.1 (by decide) (by decide))) (Fr.mo h9.2.1 (by decide) (by decide))) (Fr.mo h14.2.1 (by decide) (by decide))) (Or.inr (by decide))) (Fr.mo h67.2.1 (by decide) (by decide))) (Fr.mo h71.2.1 (by decide) (by decide))) (Or.inr (by decide))) (Fr.mo h79.2.1 (by decide) (by decide))) (Fr.mo h84.2.1 (by decide) (by decide))), by omega⟩
              · refine s_aload_n C dX6_readStatement_107 rfl ?_
                refine s_callVI (st := []) C (c_X6_readMessage l ad (sV τ70 70 3 r69)  hXτ70 ) cv_X6_57 y70 rfl rfl rfl ⟨by decide, by decide⟩ (Nat.le_of_ble_eq_true rfl) dX6_readStatement_108 ?_
                intro r88 τ89 h90
                have hXτ89 := h90.1
                have hRτ89 := h90.2.2
                have prτ89 := hXτ89.pr
                refine s_if_ne (tgt := 116) C dX6_readStatement_111 (by decide) (fun q91 => ?_) (fun q91 => ?_)
                · refine s_aload_n C dX6_readStatement_116 rfl ?_
                  refine s_getr (k := 0) (j := 66) C y70 fw_X6_24 rfl dX6_readStatement_117 ?_
                  refine s_bipush C dX6_readStatement_120 (by decide) (fun z92 tz92 => ?_)
                  refine s_callVI (st := []) C (c_X8_accept l ad τ89 z92 hXτ89 ) cv_X6_41 y66 rfl rfl rfl ⟨by decide, by decide⟩ (Nat.le_of_ble_eq_true rfl) dX6_readStatement_122 ?_
                  intro r93 τ94 h95
                  have hXτ94 := h95.1
                  have hRτ94 := h95.2.2
                  have prτ94 := hXτ94.pr
                  refine s_if_eq (tgt := 139) C dX6_readStatement_125 (by decide) (fun q96 => ?_) (fun q96 => ?_)
                  · refine s_iconst C dX6_readStatement_139 (by decide) (fun z97 tz97 => ?_)
                    exact s_zret C (by omega) X dX6_readStatement_140 ⟨hXτ94, (Fr.tr (Fr.tr (Fr.sV (Fr.tr (Fr.tr (Fr.sV (Fr.tr (Fr.tr (Fr.tr Fr.rf (Fr.mo h4.2.1 (by decide) (by decide))) (Fr.mo h9.2.1 (by decide) (by decide))) (Fr.mo h14.2.1 (by decide) (by decide))) (Or.inr (by decide))) (Fr.mo h67.2.1 (by decide) (by decide))) (Fr.mo h71.2.1 (by decide) (by decide))) (Or.inr (by decide))) (Fr.mo h90.2.1 (by decide) (by decide))) (Fr.mo h95.2.1 (by decide) (by decide))), by omega⟩
                  · refine s_aload_n C dX6_readStatement_128 rfl ?_
                    refine s_callVI (st := []) C (c_X6_readValue l ad τ94  hXτ94 ) cv_X6_60 y70 rfl rfl rfl ⟨by decide, by decide⟩ (Nat.le_of_ble_eq_true rfl) dX6_readStatement_129 ?_
                    intro r98 τ99 h100
                    have hXτ99 := h100.1
                    have hRτ99 := h100.2.2
                    have prτ99 := hXτ99.pr
                    refine s_if_eq (tgt := 139) C dX6_readStatement_132 (by decide) (fun q101 => ?_) (fun q101 => ?_)
                    · refine s_iconst C dX6_readStatement_139 (by decide) (fun z102 tz102 => ?_)
                      exact s_zret C (by omega) X dX6_readStatement_140 ⟨hXτ99, (Fr.tr (Fr.tr (Fr.tr (Fr.sV (Fr.tr (Fr.tr (Fr.sV (Fr.tr (Fr.tr (Fr.tr Fr.rf (Fr.mo h4.2.1 (by decide) (by decide))) (Fr.mo h9.2.1 (by decide) (by decide))) (Fr.mo h14.2.1 (by decide) (by decide))) (Or.inr (by decide))) (Fr.mo h67.2.1 (by decide) (by decide))) (Fr.mo h71.2.1 (by decide) (by decide))) (Or.inr (by decide))) (Fr.mo h90.2.1 (by decide) (by decide))) (Fr.mo h95.2.1 (by decide) (by decide))) (Fr.mo h100.2.1 (by decide) (by decide))), by omega⟩
                    · refine s_iconst C dX6_readStatement_135 (by decide) (fun z103 tz103 => ?_)
                      refine s_goto (tgt := 140) C dX6_readStatement_136 (by decide) ?_
                      exact s_zret C (by omega) X dX6_readStatement_140 ⟨hXτ99, (Fr.tr (Fr.tr (Fr.tr (Fr.sV (Fr.tr (Fr.tr (Fr.sV (Fr.tr (Fr.tr (Fr.tr Fr.rf (Fr.mo h4.2.1 (by decide) (by decide))) (Fr.mo h9.2.1 (by decide) (by decide))) (Fr.mo h14.2.1 (by decide) (by decide))) (Or.inr (by decide))) (Fr.mo h67.2.1 (by decide) (by decide))) (Fr.mo h71.2.1 (by decide) (by decide))) (Or.inr (by decide))) (Fr.mo h90.2.1 (by decide) (by decide))) (Fr.mo h95.2.1 (by decide) (by decide))) (Fr.mo h100.2.1 (by decide) (by decide))), by omega⟩
                · refine s_iconst C dX6_readStatement_114 (by decide) (fun z104 tz104 => ?_)
                  exact s_zret C (by omega) X dX6_readStatement_115 ⟨hXτ89, (Fr.tr (Fr.sV (Fr.tr (Fr.tr (Fr.sV (Fr.tr (Fr.tr (Fr.tr Fr.rf (Fr.mo h4.2.1 (by decide) (by decide))) (Fr.mo h9.2.1 (by decide) (by decide))) (Fr.mo h14.2.1 (by decide) (by decide))) (Or.inr (by decide))) (Fr.mo h67.2.1 (by decide) (by decide))) (Fr.mo h71.2.1 (by decide) (by decide))) (Or.inr (by decide))) (Fr.mo h90.2.1 (by decide) (by decide))), by omega⟩
          · refine s_iconst C dX6_readStatement_72 (by decide) (fun z105 tz105 => ?_)
            exact s_zret C (by omega) X dX6_readStatement_73 ⟨hXτ66, (Fr.tr (Fr.sV (Fr.tr (Fr.tr (Fr.tr Fr.rf (Fr.mo h4.2.1 (by decide) (by decide))) (Fr.mo h9.2.1 (by decide) (by decide))) (Fr.mo h14.2.1 (by decide) (by decide))) (Or.inr (by decide))) (Fr.mo h67.2.1 (by decide) (by decide))), by omega⟩
    · refine s_iconst C dX6_readStatement_29 (by decide) (fun z106 tz106 => ?_)
      refine s_goto (tgt := 50) C dX6_readStatement_30 (by decide) ?_
      refine s_put (k := 2) C y70 fw_X6_9 fp_5_2 rfl dX6_readStatement_50 ?_
      refine s_aload_n C dX6_readStatement_53 rfl ?_
      refine s_get (k := 2) (x := z106) C y70 fw_X6_9 rfl rfl dX6_readStatement_54 ?_
      refine s_if_lt (tgt := 72) C dX6_readStatement_57 (by decide) (fun q107 => ?_) (fun q107 => ?_)
      · refine s_iconst C dX6_readStatement_72 (by decide) (fun z108 tz108 => ?_)
        exact s_zret C (by omega) X dX6_readStatement_73 ⟨hXτ8, (Fr.sV (Fr.tr (Fr.tr Fr.rf (Fr.mo h4.2.1 (by decide) (by decide))) (Fr.mo h9.2.1 (by decide) (by decide))) (Or.inr (by decide))), by omega⟩
      · refine s_aload_n C dX6_readStatement_60 rfl ?_
        refine s_getr (k := 0) (j := 66) C y70 fw_X6_24 rfl dX6_readStatement_61 ?_
        refine s_bipush C dX6_readStatement_64 (by decide) (fun z109 tz109 => ?_)
        refine s_callVI (st := []) C (c_X8_accept l ad (sV τ8 70 2 z106) z109 hXτ8 ) cv_X6_41 y66 rfl rfl rfl ⟨by decide, by decide⟩ (Nat.le_of_ble_eq_true rfl) dX6_readStatement_66 ?_
        intro r110 τ111 h112
        have hXτ111 := h112.1
        have hRτ111 := h112.2.2
        have prτ111 := hXτ111.pr
        refine s_if_ne (tgt := 74) C dX6_readStatement_69 (by decide) (fun q113 => ?_) (fun q113 => ?_)
        · refine s_aload_n C dX6_readStatement_74 rfl ?_
          refine s_aload_n C dX6_readStatement_75 rfl ?_
          refine s_getr (k := 0) (j := 66) C y70 fw_X6_24 rfl dX6_readStatement_76 ?_
          refine s_aload_n C dX6_readStatement_79 rfl ?_
          refine s_getr (k := 1) (j := 1) C y70 fw_X6_28 rfl dX6_readStatement_80 ?_
          refine s_get (k := 0) (x := (τ111.1 1 0)) C y1 fw_X6_48 rfl rfl dX6_readStatement_83 ?_
          refine s_callVI (st := [.ref (ad 70)]) C (c_X8_figureBelow l ad τ111 ((τ111.1 1 0)) hXτ111 ) cv_X6_53 y66 rfl rfl rfl ⟨by decide, by decide⟩ (Nat.le_of_ble_eq_true rfl) dX6_readStatement_86 ?_
          intro r114 τ115 h116
          have hXτ115 := h116.1
          have hRτ115 := h116.2.2
          have prτ115 := hXτ115.pr
          refine s_put (k := 3) C y70 fw_X6_15 fp_5_3 rfl dX6_readStatement_89 ?_
          refine s_aload_n C dX6_readStatement_92 rfl ?_
          refine s_get (k := 3) (x := r114) C y70 fw_X6_15 rfl rfl dX6_readStatement_93 ?_
          refine s_if_lt (tgt := 114) C dX6_readStatement_96 (by decide) (fun q117 => ?_) (fun q117 => ?_)
          · refine s_iconst C dX6_readStatement_114 (by decide) (fun z118 tz118 => ?_)
            exact s_zret C (by omega) X dX6_readStatement_115 ⟨hXτ115, (Fr.sV (Fr.tr (Fr.tr (Fr.sV (Fr.tr (Fr.tr Fr.rf (Fr.mo h4.2.1 (by decide) (by decide))) (Fr.mo h9.2.1 (by decide) (by decide))) (Or.inr (by decide))) (Fr.mo h112.2.1 (by decide) (by decide))) (Fr.mo h116.2.1 (by decide) (by decide))) (Or.inr (by decide))), by omega⟩
          · refine s_aload_n C dX6_readStatement_99 rfl ?_
            refine s_get (k := 2) (x := (τ115.1 70 2)) C y70 fw_X6_9 rfl rfl dX6_readStatement_100 ?_
            refine s_iconst C dX6_readStatement_103 (by decide) (fun z119 tz119 => ?_)
            refine s_icmp_ne (tgt := 116) C dX6_readStatement_104 (by decide) (fun q120 => ?_) (fun q120 => ?_)
            · refine s_aload_n C dX6_readStatement_116 rfl ?_
              refine s_getr (k := 0) (j := 66) C y70 fw_X6_24 rfl dX6_readStatement_117 ?_
              refine s_bipush C dX6_readStatement_120 (by decide) (fun z121 tz121 => ?_)
              refine s_callVI (st := []) C (c_X8_accept l ad (sV τ115 70 3 r114) z121 hXτ115 ) cv_X6_41 y66 rfl rfl rfl ⟨by decide, by decide⟩ (Nat.le_of_ble_eq_true rfl) dX6_readStatement_122 ?_
              intro r122 τ123 h124
              have hXτ123 := h124.1
              have hRτ123 := h124.2.2
              have prτ123 := hXτ123.pr
              refine s_if_eq (tgt := 139) C dX6_readStatement_125 (by decide) (fun q125 => ?_) (fun q125 => ?_)
              · refine s_iconst C dX6_readStatement_139 (by decide) (fun z126 tz126 => ?_)
                exact s_zret C (by omega) X dX6_readStatement_140 ⟨hXτ123, (Fr.tr (Fr.sV (Fr.tr (Fr.tr (Fr.sV (Fr.tr (Fr.tr Fr.rf (Fr.mo h4.2.1 (by decide) (by decide))) (Fr.mo h9.2.1 (by decide) (by decide))) (Or.inr (by decide))) (Fr.mo h112.2.1 (by decide) (by decide))) (Fr.mo h116.2.1 (by decide) (by decide))) (Or.inr (by decide))) (Fr.mo h124.2.1 (by decide) (by decide))), by omega⟩
              · refine s_aload_n C dX6_readStatement_128 rfl ?_
                refine s_callVI (st := []) C (c_X6_readValue l ad τ123  hXτ123 ) cv_X6_60 y70 rfl rfl rfl ⟨by decide, by decide⟩ (Nat.le_of_ble_eq_true rfl) dX6_readStatement_129 ?_
                intro r127 τ128 h129
                have hXτ128 := h129.1
                have hRτ128 := h129.2.2
                have prτ128 := hXτ128.pr
                refine s_if_eq (tgt := 139) C dX6_readStatement_132 (by decide) (fun q130 => ?_) (fun q130 => ?_)
                · refine s_iconst C dX6_readStatement_139 (by decide) (fun z131 tz131 => ?_)
                  exact s_zret C (by omega) X dX6_readStatement_140 ⟨hXτ128, (Fr.tr (Fr.tr (Fr.sV (Fr.tr (Fr.tr (Fr.sV (Fr.tr (Fr.tr Fr.rf (Fr.mo h4.2.1 (by decide) (by decide))) (Fr.mo h9.2.1 (by decide) (by decide))) (Or.inr (by decide))) (Fr.mo h112.2.1 (by decide) (by decide))) (Fr.mo h116.2.1 (by decide) (by decide))) (Or.inr (by decide))) (Fr.mo h124.2.1 (by decide) (by decide))) (Fr.mo h129.2.1 (by decide) (by decide))), by omega⟩
                · refine s_iconst C dX6_readStatement_135 (by decide) (fun z132 tz132 => ?_)
                  refine s_goto (tgt := 140) C dX6_readStatement_136 (by decide) ?_
                  exact s_zret C (by omega) X dX6_readStatement_140 ⟨hXτ128, (Fr.tr (Fr.tr (Fr.sV (Fr.tr (Fr.tr (Fr.sV (Fr.tr (Fr.tr Fr.rf (Fr.mo h4.2.1 (by decide) (by decide))) (Fr.mo h9.2.1 (by decide) (by decide))) (Or.inr (by decide))) (Fr.mo h112.2.1 (by decide) (by decide))) (Fr.mo h116.2.1 (by decide) (by decide))) (Or.inr (by decide))) (Fr.mo h124.2.1 (by decide) (by decide))) (Fr.mo h129.2.1 (by decide) (by decide))), by omega⟩
            · refine s_aload_n C dX6_readStatement_107 rfl ?_
              refine s_callVI (st := []) C (c_X6_readMessage l ad (sV τ115 70 3 r114)  hXτ115 ) cv_X6_57 y70 rfl rfl rfl ⟨by decide, by decide⟩ (Nat.le_of_ble_eq_true rfl) dX6_readStatement_108 ?_
              intro r133 τ134 h135
              have hXτ134 := h135.1
              have hRτ134 := h135.2.2
              have prτ134 := hXτ134.pr
              refine s_if_ne (tgt := 116) C dX6_readStatement_111 (by decide) (fun q136 => ?_) (fun q136 => ?_)
              · refine s_aload_n C dX6_readStatement_116 rfl ?_
                refine s_getr (k := 0) (j := 66) C y70 fw_X6_24 rfl dX6_readStatement_117 ?_
                refine s_bipush C dX6_readStatement_120 (by decide) (fun z137 tz137 => ?_)
                refine s_callVI (st := []) C (c_X8_accept l ad τ134 z137 hXτ134 ) cv_X6_41 y66 rfl rfl rfl ⟨by decide, by decide⟩ (Nat.le_of_ble_eq_true rfl) dX6_readStatement_122 ?_
                intro r138 τ139 h140
                have hXτ139 := h140.1
                have hRτ139 := h140.2.2
                have prτ139 := hXτ139.pr
                refine s_if_eq (tgt := 139) C dX6_readStatement_125 (by decide) (fun q141 => ?_) (fun q141 => ?_)
                · refine s_iconst C dX6_readStatement_139 (by decide) (fun z142 tz142 => ?_)
                  exact s_zret C (by omega) X dX6_readStatement_140 ⟨hXτ139, (Fr.tr (Fr.tr (Fr.sV (Fr.tr (Fr.tr (Fr.sV (Fr.tr (Fr.tr Fr.rf (Fr.mo h4.2.1 (by decide) (by decide))) (Fr.mo h9.2.1 (by decide) (by decide))) (Or.inr (by decide))) (Fr.mo h112.2.1 (by decide) (by decide))) (Fr.mo h116.2.1 (by decide) (by decide))) (Or.inr (by decide))) (Fr.mo h135.2.1 (by decide) (by decide))) (Fr.mo h140.2.1 (by decide) (by decide))), by omega⟩
                · refine s_aload_n C dX6_readStatement_128 rfl ?_
                  refine s_callVI (st := []) C (c_X6_readValue l ad τ139  hXτ139 ) cv_X6_60 y70 rfl rfl rfl ⟨by decide, by decide⟩ (Nat.le_of_ble_eq_true rfl) dX6_readStatement_129 ?_
                  intro r143 τ144 h145
                  have hXτ144 := h145.1
                  have hRτ144 := h145.2.2
                  have prτ144 := hXτ144.pr
                  refine s_if_eq (tgt := 139) C dX6_readStatement_132 (by decide) (fun q146 => ?_) (fun q146 => ?_)
                  · refine s_iconst C dX6_readStatement_139 (by decide) (fun z147 tz147 => ?_)
                    exact s_zret C (by omega) X dX6_readStatement_140 ⟨hXτ144, (Fr.tr (Fr.tr (Fr.tr (Fr.sV (Fr.tr (Fr.tr (Fr.sV (Fr.tr (Fr.tr Fr.rf (Fr.mo h4.2.1 (by decide) (by decide))) (Fr.mo h9.2.1 (by decide) (by decide))) (Or.inr (by decide))) (Fr.mo h112.2.1 (by decide) (by decide))) (Fr.mo h116.2.1 (by decide) (by decide))) (Or.inr (by decide))) (Fr.mo h135.2.1 (by decide) (by decide))) (Fr.mo h140.2.1 (by decide) (by decide))) (Fr.mo h145.2.1 (by decide) (by decide))), by omega⟩
                  · refine s_iconst C dX6_readStatement_135 (by decide) (fun z148 tz148 => ?_)
                    refine s_goto (tgt := 140) C dX6_readStatement_136 (by decide) ?_
                    exact s_zret C (by omega) X dX6_readStatement_140 ⟨hXτ144, (Fr.tr (Fr.tr (Fr.tr (Fr.sV (Fr.tr (Fr.tr (Fr.sV (Fr.tr (Fr.tr Fr.rf (Fr.mo h4.2.1 (by decide) (by decide))) (Fr.mo h9.2.1 (by decide) (by decide))) (Or.inr (by decide))) (Fr.mo h112.2.1 (by decide) (by decide))) (Fr.mo h116.2.1 (by decide) (by decide))) (Or.inr (by decide))) (Fr.mo h135.2.1 (by decide) (by decide))) (Fr.mo h140.2.1 (by decide) (by decide))) (Fr.mo h145.2.1 (by decide) (by decide))), by omega⟩
              · refine s_iconst C dX6_readStatement_114 (by decide) (fun z149 tz149 => ?_)
                exact s_zret C (by omega) X dX6_readStatement_115 ⟨hXτ134, (Fr.tr (Fr.sV (Fr.tr (Fr.tr (Fr.sV (Fr.tr (Fr.tr Fr.rf (Fr.mo h4.2.1 (by decide) (by decide))) (Fr.mo h9.2.1 (by decide) (by decide))) (Or.inr (by decide))) (Fr.mo h112.2.1 (by decide) (by decide))) (Fr.mo h116.2.1 (by decide) (by decide))) (Or.inr (by decide))) (Fr.mo h135.2.1 (by decide) (by decide))), by omega⟩
        · refine s_iconst C dX6_readStatement_72 (by decide) (fun z150 tz150 => ?_)
          exact s_zret C (by omega) X dX6_readStatement_73 ⟨hXτ111, (Fr.tr (Fr.sV (Fr.tr (Fr.tr Fr.rf (Fr.mo h4.2.1 (by decide) (by decide))) (Fr.mo h9.2.1 (by decide) (by decide))) (Or.inr (by decide))) (Fr.mo h112.2.1 (by decide) (by decide))), by omega⟩
  · refine s_iconst C dX6_readStatement_13 (by decide) (fun z151 tz151 => ?_)
    refine s_goto (tgt := 50) C dX6_readStatement_14 (by decide) ?_
    refine s_put (k := 2) C y70 fw_X6_9 fp_5_2 rfl dX6_readStatement_50 ?_
    refine s_aload_n C dX6_readStatement_53 rfl ?_
    refine s_get (k := 2) (x := z151) C y70 fw_X6_9 rfl rfl dX6_readStatement_54 ?_
    refine s_if_lt (tgt := 72) C dX6_readStatement_57 (by decide) (fun q152 => ?_) (fun q152 => ?_)
    · refine s_iconst C dX6_readStatement_72 (by decide) (fun z153 tz153 => ?_)
      exact s_zret C (by omega) X dX6_readStatement_73 ⟨hXτ3, (Fr.sV (Fr.tr Fr.rf (Fr.mo h4.2.1 (by decide) (by decide))) (Or.inr (by decide))), by omega⟩
    · refine s_aload_n C dX6_readStatement_60 rfl ?_
      refine s_getr (k := 0) (j := 66) C y70 fw_X6_24 rfl dX6_readStatement_61 ?_
      refine s_bipush C dX6_readStatement_64 (by decide) (fun z154 tz154 => ?_)
      refine s_callVI (st := []) C (c_X8_accept l ad (sV τ3 70 2 z151) z154 hXτ3 ) cv_X6_41 y66 rfl rfl rfl ⟨by decide, by decide⟩ (Nat.le_of_ble_eq_true rfl) dX6_readStatement_66 ?_
      intro r155 τ156 h157
      have hXτ156 := h157.1
      have hRτ156 := h157.2.2
      have prτ156 := hXτ156.pr
      refine s_if_ne (tgt := 74) C dX6_readStatement_69 (by decide) (fun q158 => ?_) (fun q158 => ?_)
      · refine s_aload_n C dX6_readStatement_74 rfl ?_
        refine s_aload_n C dX6_readStatement_75 rfl ?_
        refine s_getr (k := 0) (j := 66) C y70 fw_X6_24 rfl dX6_readStatement_76 ?_
        refine s_aload_n C dX6_readStatement_79 rfl ?_
        refine s_getr (k := 1) (j := 1) C y70 fw_X6_28 rfl dX6_readStatement_80 ?_
        refine s_get (k := 0) (x := (τ156.1 1 0)) C y1 fw_X6_48 rfl rfl dX6_readStatement_83 ?_
        refine s_callVI (st := [.ref (ad 70)]) C (c_X8_figureBelow l ad τ156 ((τ156.1 1 0)) hXτ156 ) cv_X6_53 y66 rfl rfl rfl ⟨by decide, by decide⟩ (Nat.le_of_ble_eq_true rfl) dX6_readStatement_86 ?_
        intro r159 τ160 h161
        have hXτ160 := h161.1
        have hRτ160 := h161.2.2
        have prτ160 := hXτ160.pr
        refine s_put (k := 3) C y70 fw_X6_15 fp_5_3 rfl dX6_readStatement_89 ?_
        refine s_aload_n C dX6_readStatement_92 rfl ?_
        refine s_get (k := 3) (x := r159) C y70 fw_X6_15 rfl rfl dX6_readStatement_93 ?_
        refine s_if_lt (tgt := 114) C dX6_readStatement_96 (by decide) (fun q162 => ?_) (fun q162 => ?_)
        · refine s_iconst C dX6_readStatement_114 (by decide) (fun z163 tz163 => ?_)
          exact s_zret C (by omega) X dX6_readStatement_115 ⟨hXτ160, (Fr.sV (Fr.tr (Fr.tr (Fr.sV (Fr.tr Fr.rf (Fr.mo h4.2.1 (by decide) (by decide))) (Or.inr (by decide))) (Fr.mo h157.2.1 (by decide) (by decide))) (Fr.mo h161.2.1 (by decide) (by decide))) (Or.inr (by decide))), by omega⟩
        · refine s_aload_n C dX6_readStatement_99 rfl ?_
          refine s_get (k := 2) (x := (τ160.1 70 2)) C y70 fw_X6_9 rfl rfl dX6_readStatement_100 ?_
          refine s_iconst C dX6_readStatement_103 (by decide) (fun z164 tz164 => ?_)
          refine s_icmp_ne (tgt := 116) C dX6_readStatement_104 (by decide) (fun q165 => ?_) (fun q165 => ?_)
          · refine s_aload_n C dX6_readStatement_116 rfl ?_
            refine s_getr (k := 0) (j := 66) C y70 fw_X6_24 rfl dX6_readStatement_117 ?_
            refine s_bipush C dX6_readStatement_120 (by decide) (fun z166 tz166 => ?_)
            refine s_callVI (st := []) C (c_X8_accept l ad (sV τ160 70 3 r159) z166 hXτ160 ) cv_X6_41 y66 rfl rfl rfl ⟨by decide, by decide⟩ (Nat.le_of_ble_eq_true rfl) dX6_readStatement_122 ?_
            intro r167 τ168 h169
            have hXτ168 := h169.1
            have hRτ168 := h169.2.2
            have prτ168 := hXτ168.pr
            refine s_if_eq (tgt := 139) C dX6_readStatement_125 (by decide) (fun q170 => ?_) (fun q170 => ?_)
            · refine s_iconst C dX6_readStatement_139 (by decide) (fun z171 tz171 => ?_)
              exact s_zret C (by omega) X dX6_readStatement_140 ⟨hXτ168, (Fr.tr (Fr.sV (Fr.tr (Fr.tr (Fr.sV (Fr.tr Fr.rf (Fr.mo h4.2.1 (by decide) (by decide))) (Or.inr (by decide))) (Fr.mo h157.2.1 (by decide) (by decide))) (Fr.mo h161.2.1 (by decide) (by decide))) (Or.inr (by decide))) (Fr.mo h169.2.1 (by decide) (by decide))), by omega⟩
            · refine s_aload_n C dX6_readStatement_128 rfl ?_
              refine s_callVI (st := []) C (c_X6_readValue l ad τ168  hXτ168 ) cv_X6_60 y70 rfl rfl rfl ⟨by decide, by decide⟩ (Nat.le_of_ble_eq_true rfl) dX6_readStatement_129 ?_
              intro r172 τ173 h174
              have hXτ173 := h174.1
              have hRτ173 := h174.2.2
              have prτ173 := hXτ173.pr
              refine s_if_eq (tgt := 139) C dX6_readStatement_132 (by decide) (fun q175 => ?_) (fun q175 => ?_)
              · refine s_iconst C dX6_readStatement_139 (by decide) (fun z176 tz176 => ?_)
                exact s_zret C (by omega) X dX6_readStatement_140 ⟨hXτ173, (Fr.tr (Fr.tr (Fr.sV (Fr.tr (Fr.tr (Fr.sV (Fr.tr Fr.rf (Fr.mo h4.2.1 (by decide) (by decide))) (Or.inr (by decide))) (Fr.mo h157.2.1 (by decide) (by decide))) (Fr.mo h161.2.1 (by decide) (by decide))) (Or.inr (by decide))) (Fr.mo h169.2.1 (by decide) (by decide))) (Fr.mo h174.2.1 (by decide) (by decide))), by omega⟩
              · refine s_iconst C dX6_readStatement_135 (by decide) (fun z177 tz177 => ?_)
                refine s_goto (tgt := 140) C dX6_readStatement_136 (by decide) ?_
                exact s_zret C (by omega) X dX6_readStatement_140 ⟨hXτ173, (Fr.tr (Fr.tr (Fr.sV (Fr.tr (Fr.tr (Fr.sV (Fr.tr Fr.rf (Fr.mo h4.2.1 (by decide) (by decide))) (Or.inr (by decide))) (Fr.mo h157.2.1 (by decide) (by decide))) (Fr.mo h161.2.1 (by decide) (by decide))) (Or.inr (by decide))) (Fr.mo h169.2.1 (by decide) (by decide))) (Fr.mo h174.2.1 (by decide) (by decide))), by omega⟩
          · refine s_aload_n C dX6_readStatement_107 rfl ?_
            refine s_callVI (st := []) C (c_X6_readMessage l ad (sV τ160 70 3 r159)  hXτ160 ) cv_X6_57 y70 rfl rfl rfl ⟨by decide, by decide⟩ (Nat.le_of_ble_eq_true rfl) dX6_readStatement_108 ?_
            intro r178 τ179 h180
            have hXτ179 := h180.1
            have hRτ179 := h180.2.2
            have prτ179 := hXτ179.pr
            refine s_if_ne (tgt := 116) C dX6_readStatement_111 (by decide) (fun q181 => ?_) (fun q181 => ?_)
            · refine s_aload_n C dX6_readStatement_116 rfl ?_
              refine s_getr (k := 0) (j := 66) C y70 fw_X6_24 rfl dX6_readStatement_117 ?_
              refine s_bipush C dX6_readStatement_120 (by decide) (fun z182 tz182 => ?_)
              refine s_callVI (st := []) C (c_X8_accept l ad τ179 z182 hXτ179 ) cv_X6_41 y66 rfl rfl rfl ⟨by decide, by decide⟩ (Nat.le_of_ble_eq_true rfl) dX6_readStatement_122 ?_
              intro r183 τ184 h185
              have hXτ184 := h185.1
              have hRτ184 := h185.2.2
              have prτ184 := hXτ184.pr
              refine s_if_eq (tgt := 139) C dX6_readStatement_125 (by decide) (fun q186 => ?_) (fun q186 => ?_)
              · refine s_iconst C dX6_readStatement_139 (by decide) (fun z187 tz187 => ?_)
                exact s_zret C (by omega) X dX6_readStatement_140 ⟨hXτ184, (Fr.tr (Fr.tr (Fr.sV (Fr.tr (Fr.tr (Fr.sV (Fr.tr Fr.rf (Fr.mo h4.2.1 (by decide) (by decide))) (Or.inr (by decide))) (Fr.mo h157.2.1 (by decide) (by decide))) (Fr.mo h161.2.1 (by decide) (by decide))) (Or.inr (by decide))) (Fr.mo h180.2.1 (by decide) (by decide))) (Fr.mo h185.2.1 (by decide) (by decide))), by omega⟩
              · refine s_aload_n C dX6_readStatement_128 rfl ?_
                refine s_callVI (st := []) C (c_X6_readValue l ad τ184  hXτ184 ) cv_X6_60 y70 rfl rfl rfl ⟨by decide, by decide⟩ (Nat.le_of_ble_eq_true rfl) dX6_readStatement_129 ?_
                intro r188 τ189 h190
                have hXτ189 := h190.1
                have hRτ189 := h190.2.2
                have prτ189 := hXτ189.pr
                refine s_if_eq (tgt := 139) C dX6_readStatement_132 (by decide) (fun q191 => ?_) (fun q191 => ?_)
                · refine s_iconst C dX6_readStatement_139 (by decide) (fun z192 tz192 => ?_)
                  exact s_zret C (by omega) X dX6_readStatement_140 ⟨hXτ189, (Fr.tr (Fr.tr (Fr.tr (Fr.sV (Fr.tr (Fr.tr (Fr.sV (Fr.tr Fr.rf (Fr.mo h4.2.1 (by decide) (by decide))) (Or.inr (by decide))) (Fr.mo h157.2.1 (by decide) (by decide))) (Fr.mo h161.2.1 (by decide) (by decide))) (Or.inr (by decide))) (Fr.mo h180.2.1 (by decide) (by decide))) (Fr.mo h185.2.1 (by decide) (by decide))) (Fr.mo h190.2.1 (by decide) (by decide))), by omega⟩
                · refine s_iconst C dX6_readStatement_135 (by decide) (fun z193 tz193 => ?_)
                  refine s_goto (tgt := 140) C dX6_readStatement_136 (by decide) ?_
                  exact s_zret C (by omega) X dX6_readStatement_140 ⟨hXτ189, (Fr.tr (Fr.tr (Fr.tr (Fr.sV (Fr.tr (Fr.tr (Fr.sV (Fr.tr Fr.rf (Fr.mo h4.2.1 (by decide) (by decide))) (Or.inr (by decide))) (Fr.mo h157.2.1 (by decide) (by decide))) (Fr.mo h161.2.1 (by decide) (by decide))) (Or.inr (by decide))) (Fr.mo h180.2.1 (by decide) (by decide))) (Fr.mo h185.2.1 (by decide) (by decide))) (Fr.mo h190.2.1 (by decide) (by decide))), by omega⟩
            · refine s_iconst C dX6_readStatement_114 (by decide) (fun z194 tz194 => ?_)
              exact s_zret C (by omega) X dX6_readStatement_115 ⟨hXτ179, (Fr.tr (Fr.sV (Fr.tr (Fr.tr (Fr.sV (Fr.tr Fr.rf (Fr.mo h4.2.1 (by decide) (by decide))) (Or.inr (by decide))) (Fr.mo h157.2.1 (by decide) (by decide))) (Fr.mo h161.2.1 (by decide) (by decide))) (Or.inr (by decide))) (Fr.mo h180.2.1 (by decide) (by decide))), by omega⟩
      · refine s_iconst C dX6_readStatement_72 (by decide) (fun z195 tz195 => ?_)
        exact s_zret C (by omega) X dX6_readStatement_73 ⟨hXτ156, (Fr.tr (Fr.sV (Fr.tr Fr.rf (Fr.mo h4.2.1 (by decide) (by decide))) (Or.inr (by decide))) (Fr.mo h157.2.1 (by decide) (by decide))), by omega⟩
set_option maxRecDepth 100000 in
theorem L_readsWhole (l : Launch) (ad : Nat → Nat) (E : Ev) (σ : Sg)  (C : Cx E l (rmk 3) 2 cX6_readsWhole RX6) (X : Rx E ad (some .boolean) (oI (fun r τ => IX τ.1 ∧ Fr [] [(66, 1), (70, 2), (70, 3), (70, 4), (70, 5)] σ τ ∧ (r.toInt = 0 ∨ r.toInt = 1))))  : ∀ (n : Nat) (τ : Sg) (z : Int32), (Fr [] [(66, 1), (70, 2), (70, 3), (70, 4), (70, 5)] σ τ) → (IX τ.1) → (0 ≤ z.toInt) → (60 - z.toInt).toNat < n → WP E ad 10 [some (.ref (ad 70)), some (.int z)] [] τ := by
  intro n
  induction n with
  | zero => intro τ z kF hXτ h0 hm9; exact absurd hm9 (Nat.not_lt_zero _)
  | succ n ih =>
    intro τ z kF hXτ h0 hm9
    refine s_iload_n C dX6_readsWhole_10 rfl ?_
    refine s_bipush C dX6_readsWhole_11 (by decide) (fun z1 tz1 => ?_)
    refine s_icmp_ge (tgt := 51) C dX6_readsWhole_13 (by decide) (fun q2 => ?_) (fun q2 => ?_)
    · refine s_iconst C dX6_readsWhole_51 (by decide) (fun z3 tz3 => ?_)
      exact s_zret C (by omega) X dX6_readsWhole_52 ⟨hXτ, (Fr.tr Fr.rf (Fr.mo kF (by decide) (by decide))), by omega⟩
    · refine s_aload_n C dX6_readsWhole_16 rfl ?_
      refine s_callVI (st := []) C (c_X6_readStatement l ad τ  hXτ ) cv_X6_37 y70 rfl rfl rfl ⟨by decide, by decide⟩ (Nat.le_of_ble_eq_true rfl) dX6_readsWhole_17 ?_
      intro r4 τ5 h6
      have hXτ5 := h6.1
      have hRτ5 := h6.2.2
      refine s_if_ne (tgt := 25) C dX6_readsWhole_20 (by decide) (fun q7 => ?_) (fun q7 => ?_)
      · refine s_aload_n C dX6_readsWhole_25 rfl ?_
        refine s_getr (k := 0) (j := 66) C y70 fw_X6_24 rfl dX6_readsWhole_26 ?_
        refine s_bipush C dX6_readsWhole_29 (by decide) (fun z8 tz8 => ?_)
        refine s_callVI (st := []) C (c_X8_accept l ad τ5 z8 hXτ5 ) cv_X6_41 y66 rfl rfl rfl ⟨by decide, by decide⟩ (Nat.le_of_ble_eq_true rfl) dX6_readsWhole_31 ?_
        intro r9 τ10 h11
        have hXτ10 := h11.1
        have hRτ10 := h11.2.2
        refine s_if_ne (tgt := 45) C dX6_readsWhole_34 (by decide) (fun q12 => ?_) (fun q12 => ?_)
        · refine s_iinc C dX6_readsWhole_45 rfl (by decide) rfl (by decide) (by omega) (fun z13 tz13 => ?_)
          show WP E ad 48 [some (.ref (ad 70)), some (.int z13)] [] τ10
          refine s_goto (tgt := 10) C dX6_readsWhole_48 (by decide) ?_
          exact ih τ10 z13 (Fr.tr (Fr.tr (Fr.tr Fr.rf (Fr.mo kF (by decide) (by decide))) (Fr.mo h6.2.1 (by decide) (by decide))) (Fr.mo h11.2.1 (by decide) (by decide))) hXτ10 (by omega) (by omega)
        · refine s_aload_n C dX6_readsWhole_37 rfl ?_
          refine s_getr (k := 0) (j := 66) C y70 fw_X6_24 rfl dX6_readsWhole_38 ?_
          refine s_callVI (st := []) C (c_X8_isAtEnd l ad τ10  ) cv_X6_45 y66 rfl rfl rfl ⟨by decide, by decide⟩ (Nat.le_of_ble_eq_true rfl) dX6_readsWhole_41 ?_
          intro r14 τ15 h16
          obtain ⟨eh16, h16⟩ := h16; replace eh16 := eh16.symm; subst eh16
          exact s_zret C (by omega) X dX6_readsWhole_44 ⟨hXτ10, (Fr.tr (Fr.tr (Fr.tr Fr.rf (Fr.mo kF (by decide) (by decide))) (Fr.mo h6.2.1 (by decide) (by decide))) (Fr.mo h11.2.1 (by decide) (by decide))), by omega⟩
      · refine s_iconst C dX6_readsWhole_23 (by decide) (fun z17 tz17 => ?_)
        exact s_zret C (by omega) X dX6_readsWhole_24 ⟨hXτ5, (Fr.tr (Fr.tr Fr.rf (Fr.mo kF (by decide) (by decide))) (Fr.mo h6.2.1 (by decide) (by decide))), by omega⟩
set_option maxRecDepth 100000 in
theorem c_X6_readsWhole (l : Launch) (ad : Nat → Nat) (σ : Sg)  (hX : IX σ.1)  : Mt l yX6_readsWhole cX6_readsWhole 2 (some .boolean) 3 ad σ [.ref (ad 70)] (oI (fun r τ => IX τ.1 ∧ Fr [] [(66, 1), (70, 2), (70, 3), (70, 4), (70, 5)] σ τ ∧ (r.toInt = 0 ∨ r.toInt = 1))) := by
  refine Mt_intro (by decide +kernel) (by simp [lg_sl, Value.category]) (fun E C X => ?_)
  show WP E ad 0 [some (.ref (ad 70)), none] [] σ
  refine s_aload_n C dX6_readsWhole_0 rfl ?_
  refine s_getr (k := 0) (j := 66) C y70 fw_X6_24 rfl dX6_readsWhole_1 ?_
  refine s_iconst C dX6_readsWhole_4 (by decide) (fun z1 tz1 => ?_)
  refine s_put (k := 1) C y66 fw_X6_32 fp_7_1 rfl dX6_readsWhole_5 ?_
  refine s_iconst C dX6_readsWhole_8 (by decide) (fun z2 tz2 => ?_)
  refine s_istore_n C dX6_readsWhole_9 (by decide) (Nat.le_of_ble_eq_true rfl) rfl ?_
  show WP E ad 10 [some (.ref (ad 70)), some (.int z2)] [] (sV σ 66 1 z1)
  exact L_readsWhole l ad E σ C X 100 (sV σ 66 1 z1) z2 (Fr.sV Fr.rf (Or.inr (by decide))) ⟨hX.1, hX.2.1, hX.2.2.1, hX.2.2.2.1, hX.2.2.2.2.1, hX.2.2.2.2.2.1, hX.2.2.2.2.2.2.1, hX.2.2.2.2.2.2.2.1, hX.2.2.2.2.2.2.2.2.1, hX.2.2.2.2.2.2.2.2.2.1, hX.2.2.2.2.2.2.2.2.2.2.1, hX.2.2.2.2.2.2.2.2.2.2.2.1, ⟨hX.tl, (by show 0 ≤ Int32.toInt z1 ∧ Int32.toInt z1 ≤ 60; omega)⟩, hX.2.2.2.2.2.2.2.2.2.2.2.2.2⟩ (by omega) (by omega)
