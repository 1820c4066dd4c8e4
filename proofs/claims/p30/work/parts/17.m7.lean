theorem im_back {σ υ : Sg} (hI : IM σ.1) {T : Nat} {k : Int32} (hT : (σ.1 71 8).toInt.toNat = T + 1) (hF : Fr [73, 82, 83] [(71, 8), (71, 10), (71, 39)] σ υ) (t8 : (υ.1 71 8).toInt = (σ.1 71 8).toInt - 1) (t39 : (υ.1 71 39).toInt = 0) (e73 : υ.1 73 = upd (σ.1 73) (σ.1 79 T).toInt.toNat k) (hk : k.toInt = (σ.1 73 (σ.1 79 T).toInt.toNat).toInt - 1) (hms : (υ.1 71 10).toInt = (σ.1 71 10).toInt - (if (σ.1 74 (sp (σ.1 79) T)).toInt = 1 then 1 else 0)) (htk : ∀ j, -5 ≤ (υ.1 82 j).toInt ∧ (υ.1 82 j).toInt ≤ 3) : IM υ.1 := by
  have f : ∀ q, (71, q) ∉ [(71, 8), (71, 10), (71, 39)] → υ.1 71 q = σ.1 71 q := fun q h => hF.f 71 q (by decide) h
  have a : ∀ i, i ∉ [73, 82, 83] → i ≠ 71 → υ.1 i = σ.1 i := fun i h1 h2 => hF.a i h1 (by intro x hx; simp at hx; rcases hx with rfl | rfl | rfl <;> exact fun q => h2 q.symm)
  refine ⟨?_, ?_, ?_, ?_, ?_, ?_, ?_⟩
  · rw [f 0 (by decide), e73, a 79 (by decide) (by decide), a 74 (by decide) (by decide), a 76 (by decide) (by decide), a 80 (by decide) (by decide), a 81 (by decide) (by decide)]
    exact rc_back hI.1 hT t8 hk hms htk
  · rw [a 79 (by decide) (by decide), a 78 (by decide) (by decide)]
    exact ck_back hI.2.1 (by omega)
  · rw [f 17 (by decide)]; exact hI.tp
  · rw [a 87 (by decide) (by decide)]; exact hI.ls
  · rw [f 0 (by decide), a 84 (by decide) (by decide), a 85 (by decide) (by decide)]; exact hI.tx
  · rw [f 40 (by decide), a 103 (by decide) (by decide), a 104 (by decide) (by decide), a 105 (by decide) (by decide)]; exact cu_off hI.cu t39
  · exact img_keep hI (fun i hi => a i (by simp at hi ⊢; omega) (by simp at hi; omega)) (fun k hk => f k (by simp at hk ⊢; omega))
set_option maxRecDepth 100000 in
theorem c_X10_back (l : Launch) (ad : Nat → Nat) (σ : Sg) (hI : IM σ.1) : Mt l yX10_back cX10_back 3 (some .int) 1 ad σ [.ref (ad 71)] (oI (fun r τ => IM τ.1 ∧ Fr [73, 82, 83] [(71, 8), (71, 10), (71, 39)] σ τ)) := by
  have hpr := hI.pr
  have htot := hI.tot
  have hms := hI.ms
  have htp := hI.tp
  refine Mt_intro (by decide +kernel) (by simp [lg_sl, Value.category]) (fun E C X => ?_)
  show WP E ad 0 [some (.ref (ad 71)), none, none] [] σ
  refine s_aload_n C dX10_back_0 rfl ?_
  refine s_get (k := 8) (x := (σ.1 71 8)) C y71 fw_X10_175 rfl rfl dX10_back_1 ?_
  refine s_if_ne (tgt := 10) C dX10_back_4 (by decide) (fun q1 => ?_) (fun q1 => ?_)
  · refine s_aload_n C dX10_back_10 rfl ?_
    refine s_dup C dX10_back_11 rfl ?_
    refine s_get (k := 8) (x := (σ.1 71 8)) C y71 fw_X10_175 rfl rfl dX10_back_12 ?_
    refine s_iconst C dX10_back_15 (by decide) (fun z2 tz2 => ?_)
    refine s_isub C dX10_back_16 (by omega) (fun z3 tz3 => ?_)
    refine s_put (k := 8) C y71 fw_X10_175 fp_9_8 rfl dX10_back_17 ?_
    have hT : (σ.1 71 8).toInt.toNat = z3.toNatClampNeg + 1 := by unfold Int32.toNatClampNeg; omega
    obtain ⟨l1, l2, l3⟩ := rc_last hI.1 hT
    replace l1 : 1 ≤ (σ.1 73 (σ.1 79 z3.toNatClampNeg).toNatClampNeg).toInt := l1
    refine s_aload_n C dX10_back_20 rfl ?_
    refine s_getr (k := 9) (j := 79) C y71 fw_X10_37 rfl dX10_back_21 ?_
    refine s_aload_n C dX10_back_24 rfl ?_
    refine s_get (k := 8) (x := z3) C y71 fw_X10_175 rfl rfl dX10_back_25 ?_
    refine s_iald (r := (σ.1 79 z3.toNatClampNeg)) C y79 (by omega) rfl dX10_back_28 ?_
    have b4 := hI.ord z3.toNatClampNeg
    refine s_istore_n C dX10_back_29 (by decide) (Nat.le_of_ble_eq_true rfl) rfl ?_
    show WP E ad 30 [some (.ref (ad 71)), some (.int (σ.1 79 z3.toNatClampNeg)), none] [] (sV σ 71 8 z3)
    have hpo := hI.ord z3.toNatClampNeg
    have hpe := hI.ev (σ.1 79 z3.toNatClampNeg).toNatClampNeg
    refine s_iload_n C dX10_back_30 rfl ?_
    refine s_aload_n C dX10_back_31 rfl ?_
    refine s_getr (k := 2) (j := 73) C y71 fw_X10_19 rfl dX10_back_32 ?_
    refine s_iload_n C dX10_back_35 rfl ?_
    refine s_iald (r := (σ.1 73 ((σ.1 79 z3.toNatClampNeg).toNatClampNeg))) C y73 (by omega) rfl dX10_back_36 ?_
    have b5 := hI.ev (σ.1 79 z3.toNatClampNeg).toNatClampNeg
    refine s_callSI (st := []) C (c_X10_at l ad (sV σ 71 8 z3) ((σ.1 79 z3.toNatClampNeg)) ((σ.1 73 ((σ.1 79 z3.toNatClampNeg).toNatClampNeg))) (by omega) (by omega)) cv_X10_189 rfl rfl ⟨by decide, by decide⟩ (Nat.le_of_ble_eq_true rfl) dX10_back_37 ?_
    intro r6 τ7 h8
    obtain ⟨eh8, h8⟩ := h8; replace eh8 := eh8.symm; subst eh8
    refine s_istore_n C dX10_back_40 (by decide) (Nat.le_of_ble_eq_true rfl) rfl ?_
    show WP E ad 41 [some (.ref (ad 71)), some (.int (σ.1 79 z3.toNatClampNeg)), some (.int r6)] [] (sV σ 71 8 z3)
    have hsp : r6.toNatClampNeg = sp (σ.1 79) z3.toNatClampNeg := by rw [l2]; unfold Int32.toNatClampNeg at *; omega
    refine s_aload_n C dX10_back_41 rfl ?_
    refine s_getr (k := 3) (j := 74) C y71 fw_X10_22 rfl dX10_back_42 ?_
    refine s_iload_n C dX10_back_45 rfl ?_
    refine s_iald (r := (σ.1 74 r6.toNatClampNeg)) C y74 (by omega) rfl dX10_back_46 ?_
    refine s_iconst C dX10_back_47 (by decide) (fun z9 tz9 => ?_)
    refine s_icmp_ne (tgt := 61) C dX10_back_48 (by decide) (fun q10 => ?_) (fun q10 => ?_)
    · refine s_aload_n C dX10_back_61 rfl ?_
      refine s_getr (k := 3) (j := 74) C y71 fw_X10_22 rfl dX10_back_62 ?_
      refine s_iload_n C dX10_back_65 rfl ?_
      refine s_iald (r := (σ.1 74 r6.toNatClampNeg)) C y74 (by omega) rfl dX10_back_66 ?_
      refine s_iconst C dX10_back_67 (by decide) (fun z11 tz11 => ?_)
      refine s_icmp_ne (tgt := 97) C dX10_back_68 (by decide) (fun q12 => ?_) (fun q12 => ?_)
      · refine s_aload_n C dX10_back_97 rfl ?_
        refine s_getr (k := 2) (j := 73) C y71 fw_X10_19 rfl dX10_back_98 ?_
        refine s_iload_n C dX10_back_101 rfl ?_
        refine s_dup2 C dX10_back_102 rfl rfl ?_
        refine s_iald (r := (σ.1 73 ((σ.1 79 z3.toNatClampNeg).toNatClampNeg))) C y73 (by omega) rfl dX10_back_103 ?_
        have b13 := hI.ev (σ.1 79 z3.toNatClampNeg).toNatClampNeg
        refine s_iconst C dX10_back_104 (by decide) (fun z14 tz14 => ?_)
        refine s_isub C dX10_back_105 (by omega) (fun z15 tz15 => ?_)
        refine s_iast C y73 (by omega) dX10_back_106 ?_
        refine s_aload_n C dX10_back_107 rfl ?_
        refine s_iconst C dX10_back_108 (by decide) (fun z16 tz16 => ?_)
        refine s_putz (k := 39) C y71 fw_X10_181 fp_9_39 rfl (by omega) dX10_back_109 ?_
        refine s_aload_n C dX10_back_112 rfl ?_
        refine s_get (k := 8) (x := z3) C y71 fw_X10_175 rfl rfl dX10_back_113 ?_
        exact s_iret C X dX10_back_116 ⟨im_back hI hT (Fr.sV (Fr.sV (Fr.sV Fr.rf (Or.inr (by decide))) (Or.inl (by decide))) (Or.inr (by decide))) (by show Int32.toInt z3 = _; omega) (by show Int32.toInt z16 = 0; omega) rfl (by show _ = (σ.1 73 (σ.1 79 z3.toNatClampNeg).toNatClampNeg).toInt - 1; omega) (by show Int32.toInt (σ.1 71 10) = _; rw [← hsp]; split <;> omega) hI.tk, (Fr.sV (Fr.sV (Fr.sV Fr.rf (Or.inr (by decide))) (Or.inl (by decide))) (Or.inr (by decide)))⟩
      · have h7 := hI.1.2.2.2.2.2.2.1 r6.toNatClampNeg (by omega)
        refine s_aload_n C dX10_back_71 rfl ?_
        refine s_getr (k := 13) (j := 82) C y71 fw_X10_46 rfl dX10_back_72 ?_
        refine s_aload_n C dX10_back_75 rfl ?_
        refine s_getr (k := 5) (j := 76) C y71 fw_X10_28 rfl dX10_back_76 ?_
        refine s_iload_n C dX10_back_79 rfl ?_
        refine s_iald (r := (σ.1 76 r6.toNatClampNeg)) C y76 (by omega) rfl dX10_back_80 ?_
        refine s_bipush C dX10_back_81 (by decide) (fun z17 tz17 => ?_)
        refine s_iast C y82 (by omega) dX10_back_83 ?_
        refine s_aload_n C dX10_back_84 rfl ?_
        refine s_getr (k := 14) (j := 83) C y71 fw_X10_49 rfl dX10_back_85 ?_
        refine s_aload_n C dX10_back_88 rfl ?_
        refine s_getr (k := 5) (j := 76) C y71 fw_X10_28 rfl dX10_back_89 ?_
        refine s_iload_n C dX10_back_92 rfl ?_
        refine s_iald (r := (σ.1 76 r6.toNatClampNeg)) C y76 (by omega) rfl dX10_back_93 ?_
        refine s_bipush C dX10_back_94 (by decide) (fun z18 tz18 => ?_)
        refine s_iast C y83 (by omega) dX10_back_96 ?_
        refine s_aload_n C dX10_back_97 rfl ?_
        refine s_getr (k := 2) (j := 73) C y71 fw_X10_19 rfl dX10_back_98 ?_
        refine s_iload_n C dX10_back_101 rfl ?_
        refine s_dup2 C dX10_back_102 rfl rfl ?_
        refine s_iald (r := (σ.1 73 ((σ.1 79 z3.toNatClampNeg).toNatClampNeg))) C y73 (by omega) rfl dX10_back_103 ?_
        have b19 := hI.ev (σ.1 79 z3.toNatClampNeg).toNatClampNeg
        refine s_iconst C dX10_back_104 (by decide) (fun z20 tz20 => ?_)
        refine s_isub C dX10_back_105 (by omega) (fun z21 tz21 => ?_)
        refine s_iast C y73 (by omega) dX10_back_106 ?_
        refine s_aload_n C dX10_back_107 rfl ?_
        refine s_iconst C dX10_back_108 (by decide) (fun z22 tz22 => ?_)
        refine s_putz (k := 39) C y71 fw_X10_181 fp_9_39 rfl (by omega) dX10_back_109 ?_
        refine s_aload_n C dX10_back_112 rfl ?_
        refine s_get (k := 8) (x := z3) C y71 fw_X10_175 rfl rfl dX10_back_113 ?_
        exact s_iret C X dX10_back_116 ⟨im_back hI hT (Fr.sV (Fr.sV (Fr.sV (Fr.sV (Fr.sV Fr.rf (Or.inr (by decide))) (Or.inl (by decide))) (Or.inl (by decide))) (Or.inl (by decide))) (Or.inr (by decide))) (by show Int32.toInt z3 = _; omega) (by show Int32.toInt z22 = 0; omega) rfl (by show _ = (σ.1 73 (σ.1 79 z3.toNatClampNeg).toNatClampNeg).toInt - 1; omega) (by show Int32.toInt (σ.1 71 10) = _; rw [← hsp]; split <;> omega) (up_iv hI.tk _ (by omega)), (Fr.sV (Fr.sV (Fr.sV (Fr.sV (Fr.sV Fr.rf (Or.inr (by decide))) (Or.inl (by decide))) (Or.inl (by decide))) (Or.inl (by decide))) (Or.inr (by decide)))⟩
    · have l3x := l3 (by rw [← hsp]; omega)
      refine s_aload_n C dX10_back_51 rfl ?_
      refine s_dup C dX10_back_52 rfl ?_
      refine s_get (k := 10) (x := (σ.1 71 10)) C y71 fw_X10_178 rfl rfl dX10_back_53 ?_
      refine s_iconst C dX10_back_56 (by decide) (fun z23 tz23 => ?_)
      refine s_isub C dX10_back_57 (by omega) (fun z24 tz24 => ?_)
      refine s_put (k := 10) C y71 fw_X10_178 fp_9_10 rfl dX10_back_58 ?_
      refine s_aload_n C dX10_back_61 rfl ?_
      refine s_getr (k := 3) (j := 74) C y71 fw_X10_22 rfl dX10_back_62 ?_
      refine s_iload_n C dX10_back_65 rfl ?_
      refine s_iald (r := (σ.1 74 r6.toNatClampNeg)) C y74 (by omega) rfl dX10_back_66 ?_
      refine s_iconst C dX10_back_67 (by decide) (fun z25 tz25 => ?_)
      refine s_icmp_ne (tgt := 97) C dX10_back_68 (by decide) (fun q26 => ?_) (fun q26 => ?_)
      · refine s_aload_n C dX10_back_97 rfl ?_
        refine s_getr (k := 2) (j := 73) C y71 fw_X10_19 rfl dX10_back_98 ?_
        refine s_iload_n C dX10_back_101 rfl ?_
        refine s_dup2 C dX10_back_102 rfl rfl ?_
        refine s_iald (r := (σ.1 73 ((σ.1 79 z3.toNatClampNeg).toNatClampNeg))) C y73 (by omega) rfl dX10_back_103 ?_
        have b27 := hI.ev (σ.1 79 z3.toNatClampNeg).toNatClampNeg
        refine s_iconst C dX10_back_104 (by decide) (fun z28 tz28 => ?_)
        refine s_isub C dX10_back_105 (by omega) (fun z29 tz29 => ?_)
        refine s_iast C y73 (by omega) dX10_back_106 ?_
        refine s_aload_n C dX10_back_107 rfl ?_
        refine s_iconst C dX10_back_108 (by decide) (fun z30 tz30 => ?_)
        refine s_putz (k := 39) C y71 fw_X10_181 fp_9_39 rfl (by omega) dX10_back_109 ?_
        refine s_aload_n C dX10_back_112 rfl ?_
        refine s_get (k := 8) (x := z3) C y71 fw_X10_175 rfl rfl dX10_back_113 ?_
        exact s_iret C X dX10_back_116 ⟨im_back hI hT (Fr.sV (Fr.sV (Fr.sV (Fr.sV Fr.rf (Or.inr (by decide))) (Or.inr (by decide))) (Or.inl (by decide))) (Or.inr (by decide))) (by show Int32.toInt z3 = _; omega) (by show Int32.toInt z30 = 0; omega) rfl (by show _ = (σ.1 73 (σ.1 79 z3.toNatClampNeg).toNatClampNeg).toInt - 1; omega) (by show Int32.toInt z24 = _; rw [← hsp]; split <;> omega) hI.tk, (Fr.sV (Fr.sV (Fr.sV (Fr.sV Fr.rf (Or.inr (by decide))) (Or.inr (by decide))) (Or.inl (by decide))) (Or.inr (by decide)))⟩
      · have h7 := hI.1.2.2.2.2.2.2.1 r6.toNatClampNeg (by omega)
        refine s_aload_n C dX10_back_71 rfl ?_
        refine s_getr (k := 13) (j := 82) C y71 fw_X10_46 rfl dX10_back_72 ?_
        refine s_aload_n C dX10_back_75 rfl ?_
        refine s_getr (k := 5) (j := 76) C y71 fw_X10_28 rfl dX10_back_76 ?_
        refine s_iload_n C dX10_back_79 rfl ?_
        refine s_iald (r := (σ.1 76 r6.toNatClampNeg)) C y76 (by omega) rfl dX10_back_80 ?_
        refine s_bipush C dX10_back_81 (by decide) (fun z31 tz31 => ?_)
        refine s_iast C y82 (by omega) dX10_back_83 ?_
        refine s_aload_n C dX10_back_84 rfl ?_
        refine s_getr (k := 14) (j := 83) C y71 fw_X10_49 rfl dX10_back_85 ?_
        refine s_aload_n C dX10_back_88 rfl ?_
        refine s_getr (k := 5) (j := 76) C y71 fw_X10_28 rfl dX10_back_89 ?_
        refine s_iload_n C dX10_back_92 rfl ?_
        refine s_iald (r := (σ.1 76 r6.toNatClampNeg)) C y76 (by omega) rfl dX10_back_93 ?_
        refine s_bipush C dX10_back_94 (by decide) (fun z32 tz32 => ?_)
        refine s_iast C y83 (by omega) dX10_back_96 ?_
        refine s_aload_n C dX10_back_97 rfl ?_
        refine s_getr (k := 2) (j := 73) C y71 fw_X10_19 rfl dX10_back_98 ?_
        refine s_iload_n C dX10_back_101 rfl ?_
        refine s_dup2 C dX10_back_102 rfl rfl ?_
        refine s_iald (r := (σ.1 73 ((σ.1 79 z3.toNatClampNeg).toNatClampNeg))) C y73 (by omega) rfl dX10_back_103 ?_
        have b33 := hI.ev (σ.1 79 z3.toNatClampNeg).toNatClampNeg
        refine s_iconst C dX10_back_104 (by decide) (fun z34 tz34 => ?_)
        refine s_isub C dX10_back_105 (by omega) (fun z35 tz35 => ?_)
        refine s_iast C y73 (by omega) dX10_back_106 ?_
        refine s_aload_n C dX10_back_107 rfl ?_
        refine s_iconst C dX10_back_108 (by decide) (fun z36 tz36 => ?_)
        refine s_putz (k := 39) C y71 fw_X10_181 fp_9_39 rfl (by omega) dX10_back_109 ?_
        refine s_aload_n C dX10_back_112 rfl ?_
        refine s_get (k := 8) (x := z3) C y71 fw_X10_175 rfl rfl dX10_back_113 ?_
        exact s_iret C X dX10_back_116 ⟨im_back hI hT (Fr.sV (Fr.sV (Fr.sV (Fr.sV (Fr.sV (Fr.sV Fr.rf (Or.inr (by decide))) (Or.inr (by decide))) (Or.inl (by decide))) (Or.inl (by decide))) (Or.inl (by decide))) (Or.inr (by decide))) (by show Int32.toInt z3 = _; omega) (by show Int32.toInt z36 = 0; omega) rfl (by show _ = (σ.1 73 (σ.1 79 z3.toNatClampNeg).toNatClampNeg).toInt - 1; omega) (by show Int32.toInt z24 = _; rw [← hsp]; split <;> omega) (up_iv hI.tk _ (by omega)), (Fr.sV (Fr.sV (Fr.sV (Fr.sV (Fr.sV (Fr.sV Fr.rf (Or.inr (by decide))) (Or.inr (by decide))) (Or.inl (by decide))) (Or.inl (by decide))) (Or.inl (by decide))) (Or.inr (by decide)))⟩
  · refine s_bipush C dX10_back_7 (by decide) (fun z37 tz37 => ?_)
    exact s_iret C X dX10_back_9 ⟨hI, Fr.rf⟩
