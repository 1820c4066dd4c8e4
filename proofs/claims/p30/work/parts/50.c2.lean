def App (σ τ : Sg) (p w m : Int32) : Prop := Fr [3, 4, 5, 6, 7, 8, 9] [(1, 1)] σ τ ∧ ∃ k : Int32, k.toInt = (σ.1 3 p.toNatClampNeg).toInt + 1 ∧ τ.1 3 = upd (σ.1 3) p.toNatClampNeg k ∧ τ.1 4 = upd (σ.1 4) (σ.1 1 1).toNatClampNeg p ∧ τ.1 5 = upd (σ.1 5) (5 * p.toNatClampNeg + (σ.1 3 p.toNatClampNeg).toInt.toNat) w ∧ τ.1 7 = upd (σ.1 7) (5 * p.toNatClampNeg + (σ.1 3 p.toNatClampNeg).toInt.toNat) m ∧ (τ.1 1 1).toInt = (σ.1 1 1).toInt + 1
set_option maxRecDepth 100000 in
theorem c_X5_beginWith (l : Launch) (ad : Nat → Nat) (σ : Sg) (n : Int32) (hX : IX σ.1) (hn : 1 ≤ n.toInt ∧ n.toInt ≤ 4) : Mt l yX5_beginWith cX5_beginWith 2 none 1 ad σ [.ref (ad 1), .int n] (oV (fun τ => IX τ.1 ∧ Fr [2, 3] [(1, 0), (1, 1), (1, 2)] σ τ ∧ τ.1 1 0 = n ∧ ∀ j, (τ.1 2 j).toInt = 0)) := by
  have hpr := hX.pr
  have htot := hX.tot
  have hms := hX.ms
  refine Mt_intro (by decide +kernel) (by simp [lg_sl, Value.category]) (fun E C X => ?_)
  show WP E ad 0 [some (.ref (ad 1)), some (.int n)] [] σ
  refine s_aload_n C dX5_beginWith_0 rfl ?_
  refine s_iload_n C dX5_beginWith_1 rfl ?_
  refine s_put (k := 0) C y1 fw_X5_9 fp_4_0 rfl dX5_beginWith_2 ?_
  refine s_aload_n C dX5_beginWith_5 rfl ?_
  refine s_iconst C dX5_beginWith_6 (by decide) (fun z1 tz1 => ?_)
  refine s_put (k := 1) C y1 fw_X5_15 fp_4_1 rfl dX5_beginWith_7 ?_
  refine s_aload_n C dX5_beginWith_10 rfl ?_
  refine s_iconst C dX5_beginWith_11 (by decide) (fun z2 tz2 => ?_)
  refine s_put (k := 2) C y1 fw_X5_18 fp_4_2 rfl dX5_beginWith_12 ?_
  refine s_aload_n C dX5_beginWith_15 rfl ?_
  refine s_getr (k := 3) (j := 2) C y1 fw_X5_21 rfl dX5_beginWith_16 ?_
  refine s_iconst C dX5_beginWith_19 (by decide) (fun z3 tz3 => ?_)
  refine s_callSV (st := []) C (c_J7_fill_53178 l ad (sV (sV (sV σ 1 0 n) 1 1 z1) 1 2 z2) 2 4 0 y2 (by decide) z3) cv_X5_58 rfl rfl ⟨by decide, by decide⟩ (Nat.le_of_ble_eq_true rfl) dX5_beginWith_20 ?_
  intro τ5 h6
  subst h6
  refine s_aload_n C dX5_beginWith_23 rfl ?_
  refine s_getr (k := 4) (j := 3) C y1 fw_X5_25 rfl dX5_beginWith_24 ?_
  refine s_iconst C dX5_beginWith_27 (by decide) (fun z7 tz7 => ?_)
  refine s_callSV (st := []) C (c_J7_fill_53178 l ad (sR (sV (sV (sV σ 1 0 n) 1 1 z1) 1 2 z2) 2 (fun _ => z3)) 3 4 0 y3 (by decide) z7) cv_X5_58 rfl rfl ⟨by decide, by decide⟩ (Nat.le_of_ble_eq_true rfl) dX5_beginWith_28 ?_
  intro τ9 h10
  subst h10
  exact s_vret C X dX5_beginWith_31 ⟨⟨(rc_new hX.RU (by exact hn) (by show Int32.toInt z1 = 0; omega) (by show Int32.toInt z2 = 0; omega) (fun j => by show 0 ≤ Int32.toInt z7 ∧ Int32.toInt z7 ≤ 5; omega) (fun j _ => by show Int32.toInt z7 = 0; omega)), hX.2.1, hX.2.2.1, hX.2.2.2.1, hX.2.2.2.2.1, hX.2.2.2.2.2.1, hX.2.2.2.2.2.2.1, hX.2.2.2.2.2.2.2.1, hX.2.2.2.2.2.2.2.2.1, hX.2.2.2.2.2.2.2.2.2.1, hX.2.2.2.2.2.2.2.2.2.2.1, hX.2.2.2.2.2.2.2.2.2.2.2.1, hX.2.2.2.2.2.2.2.2.2.2.2.2.1, hX.2.2.2.2.2.2.2.2.2.2.2.2.2⟩, (Fr.sR (Fr.sR (Fr.sV (Fr.sV (Fr.sV Fr.rf (Or.inr (by decide))) (Or.inr (by decide))) (Or.inr (by decide))) (by decide)) (by decide)), rfl, (fun j => by show Int32.toInt z3 = 0; omega)⟩
set_option maxRecDepth 100000 in
theorem c_X5_copyFrom_1 (l : Launch) (ad : Nat → Nat) (σ : Sg) (hX : IX σ.1) : Mt l yX5_copyFrom cX5_copyFrom 2 none 1 ad σ [.ref (ad 1), .ref (ad 14)] (oV (fun τ => IX τ.1 ∧ Fr [2, 3, 4, 5, 6, 7, 8, 9, 10, 11, 12, 13] [(1, 0), (1, 1), (1, 2)] σ τ ∧ τ.1 1 0 = σ.1 14 0 ∧ τ.1 2 = σ.1 15 ∧ τ.1 1 1 = σ.1 14 1)) := by
  refine Mt_intro (by decide +kernel) (by simp [lg_sl, Value.category]) (fun E C X => ?_)
  show WP E ad 0 [some (.ref (ad 1)), some (.ref (ad 14))] [] σ
  refine s_aload_n C dX5_copyFrom_0 rfl ?_
  refine s_aload_n C dX5_copyFrom_1 rfl ?_
  refine s_get (k := 0) (x := (σ.1 14 0)) C y14 fw_X5_9 rfl rfl dX5_copyFrom_2 ?_
  refine s_put (k := 0) C y1 fw_X5_9 fp_4_0 rfl dX5_copyFrom_5 ?_
  refine s_aload_n C dX5_copyFrom_8 rfl ?_
  refine s_aload_n C dX5_copyFrom_9 rfl ?_
  refine s_get (k := 1) (x := (σ.1 14 1)) C y14 fw_X5_15 rfl rfl dX5_copyFrom_10 ?_
  refine s_put (k := 1) C y1 fw_X5_15 fp_4_1 rfl dX5_copyFrom_13 ?_
  refine s_aload_n C dX5_copyFrom_16 rfl ?_
  refine s_aload_n C dX5_copyFrom_17 rfl ?_
  refine s_get (k := 2) (x := (σ.1 14 2)) C y14 fw_X5_18 rfl rfl dX5_copyFrom_18 ?_
  refine s_put (k := 2) C y1 fw_X5_18 fp_4_2 rfl dX5_copyFrom_21 ?_
  refine s_aload_n C dX5_copyFrom_24 rfl ?_
  refine s_getr (k := 3) (j := 15) C y14 fw_X5_21 rfl dX5_copyFrom_25 ?_
  refine s_iconst C dX5_copyFrom_28 (by decide) (fun z1 tz1 => ?_)
  refine s_aload_n C dX5_copyFrom_29 rfl ?_
  refine s_getr (k := 3) (j := 2) C y1 fw_X5_21 rfl dX5_copyFrom_30 ?_
  refine s_iconst C dX5_copyFrom_33 (by decide) (fun z2 tz2 => ?_)
  refine s_iconst C dX5_copyFrom_34 (by decide) (fun z3 tz3 => ?_)
  refine s_copy (idx := 64) C y15 y2 (by omega) (by omega) (by omega) (mw 946 (by decide +kernel) rfl) (mw 685 (by decide +kernel) rfl) (mw 684 (by decide +kernel) rfl) (mw 74 (by decide +kernel) rfl) (by decide) (Nat.le_of_ble_eq_true rfl) dX5_copyFrom_35 ?_
  show WP E ad 38 [some (.ref (ad 1)), some (.ref (ad 14))] [] (sR (sV (sV (sV σ 1 0 (σ.1 14 0)) 1 1 (σ.1 14 1)) 1 2 (σ.1 14 2)) 2 (σ.1 15))
  refine s_aload_n C dX5_copyFrom_38 rfl ?_
  refine s_getr (k := 4) (j := 16) C y14 fw_X5_25 rfl dX5_copyFrom_39 ?_
  refine s_iconst C dX5_copyFrom_42 (by decide) (fun z4 tz4 => ?_)
  refine s_aload_n C dX5_copyFrom_43 rfl ?_
  refine s_getr (k := 4) (j := 3) C y1 fw_X5_25 rfl dX5_copyFrom_44 ?_
  refine s_iconst C dX5_copyFrom_47 (by decide) (fun z5 tz5 => ?_)
  refine s_iconst C dX5_copyFrom_48 (by decide) (fun z6 tz6 => ?_)
  refine s_copy (idx := 64) C y16 y3 (by omega) (by omega) (by omega) (mw 946 (by decide +kernel) rfl) (mw 685 (by decide +kernel) rfl) (mw 684 (by decide +kernel) rfl) (mw 74 (by decide +kernel) rfl) (by decide) (Nat.le_of_ble_eq_true rfl) dX5_copyFrom_49 ?_
  show WP E ad 52 [some (.ref (ad 1)), some (.ref (ad 14))] [] (sR (sR (sV (sV (sV σ 1 0 (σ.1 14 0)) 1 1 (σ.1 14 1)) 1 2 (σ.1 14 2)) 2 (σ.1 15)) 3 (σ.1 16))
  refine s_aload_n C dX5_copyFrom_52 rfl ?_
  refine s_getr (k := 5) (j := 17) C y14 fw_X5_28 rfl dX5_copyFrom_53 ?_
  refine s_iconst C dX5_copyFrom_56 (by decide) (fun z7 tz7 => ?_)
  refine s_aload_n C dX5_copyFrom_57 rfl ?_
  refine s_getr (k := 5) (j := 4) C y1 fw_X5_28 rfl dX5_copyFrom_58 ?_
  refine s_iconst C dX5_copyFrom_61 (by decide) (fun z8 tz8 => ?_)
  refine s_bipush C dX5_copyFrom_62 (by decide) (fun z9 tz9 => ?_)
  refine s_copy (idx := 64) C y17 y4 (by omega) (by omega) (by omega) (mw 946 (by decide +kernel) rfl) (mw 685 (by decide +kernel) rfl) (mw 684 (by decide +kernel) rfl) (mw 74 (by decide +kernel) rfl) (by decide) (Nat.le_of_ble_eq_true rfl) dX5_copyFrom_64 ?_
  show WP E ad 67 [some (.ref (ad 1)), some (.ref (ad 14))] [] (sR (sR (sR (sV (sV (sV σ 1 0 (σ.1 14 0)) 1 1 (σ.1 14 1)) 1 2 (σ.1 14 2)) 2 (σ.1 15)) 3 (σ.1 16)) 4 (σ.1 17))
  refine s_aload_n C dX5_copyFrom_67 rfl ?_
  refine s_getr (k := 6) (j := 18) C y14 fw_X5_31 rfl dX5_copyFrom_68 ?_
  refine s_iconst C dX5_copyFrom_71 (by decide) (fun z10 tz10 => ?_)
  refine s_aload_n C dX5_copyFrom_72 rfl ?_
  refine s_getr (k := 6) (j := 5) C y1 fw_X5_31 rfl dX5_copyFrom_73 ?_
  refine s_iconst C dX5_copyFrom_76 (by decide) (fun z11 tz11 => ?_)
  refine s_bipush C dX5_copyFrom_77 (by decide) (fun z12 tz12 => ?_)
  refine s_copy (idx := 64) C y18 y5 (by omega) (by omega) (by omega) (mw 946 (by decide +kernel) rfl) (mw 685 (by decide +kernel) rfl) (mw 684 (by decide +kernel) rfl) (mw 74 (by decide +kernel) rfl) (by decide) (Nat.le_of_ble_eq_true rfl) dX5_copyFrom_79 ?_
  show WP E ad 82 [some (.ref (ad 1)), some (.ref (ad 14))] [] (sR (sR (sR (sR (sV (sV (sV σ 1 0 (σ.1 14 0)) 1 1 (σ.1 14 1)) 1 2 (σ.1 14 2)) 2 (σ.1 15)) 3 (σ.1 16)) 4 (σ.1 17)) 5 (σ.1 18))
  refine s_aload_n C dX5_copyFrom_82 rfl ?_
  refine s_getr (k := 7) (j := 19) C y14 fw_X5_34 rfl dX5_copyFrom_83 ?_
  refine s_iconst C dX5_copyFrom_86 (by decide) (fun z13 tz13 => ?_)
  refine s_aload_n C dX5_copyFrom_87 rfl ?_
  refine s_getr (k := 7) (j := 6) C y1 fw_X5_34 rfl dX5_copyFrom_88 ?_
  refine s_iconst C dX5_copyFrom_91 (by decide) (fun z14 tz14 => ?_)
  refine s_bipush C dX5_copyFrom_92 (by decide) (fun z15 tz15 => ?_)
  refine s_copy (idx := 64) C y19 y6 (by omega) (by omega) (by omega) (mw 946 (by decide +kernel) rfl) (mw 685 (by decide +kernel) rfl) (mw 684 (by decide +kernel) rfl) (mw 74 (by decide +kernel) rfl) (by decide) (Nat.le_of_ble_eq_true rfl) dX5_copyFrom_94 ?_
  show WP E ad 97 [some (.ref (ad 1)), some (.ref (ad 14))] [] (sR (sR (sR (sR (sR (sV (sV (sV σ 1 0 (σ.1 14 0)) 1 1 (σ.1 14 1)) 1 2 (σ.1 14 2)) 2 (σ.1 15)) 3 (σ.1 16)) 4 (σ.1 17)) 5 (σ.1 18)) 6 (σ.1 19))
  refine s_aload_n C dX5_copyFrom_97 rfl ?_
  refine s_getr (k := 8) (j := 20) C y14 fw_X5_37 rfl dX5_copyFrom_98 ?_
  refine s_iconst C dX5_copyFrom_101 (by decide) (fun z16 tz16 => ?_)
  refine s_aload_n C dX5_copyFrom_102 rfl ?_
  refine s_getr (k := 8) (j := 7) C y1 fw_X5_37 rfl dX5_copyFrom_103 ?_
  refine s_iconst C dX5_copyFrom_106 (by decide) (fun z17 tz17 => ?_)
  refine s_bipush C dX5_copyFrom_107 (by decide) (fun z18 tz18 => ?_)
  refine s_copy (idx := 64) C y20 y7 (by omega) (by omega) (by omega) (mw 946 (by decide +kernel) rfl) (mw 685 (by decide +kernel) rfl) (mw 684 (by decide +kernel) rfl) (mw 74 (by decide +kernel) rfl) (by decide) (Nat.le_of_ble_eq_true rfl) dX5_copyFrom_109 ?_
  show WP E ad 112 [some (.ref (ad 1)), some (.ref (ad 14))] [] (sR (sR (sR (sR (sR (sR (sV (sV (sV σ 1 0 (σ.1 14 0)) 1 1 (σ.1 14 1)) 1 2 (σ.1 14 2)) 2 (σ.1 15)) 3 (σ.1 16)) 4 (σ.1 17)) 5 (σ.1 18)) 6 (σ.1 19)) 7 (σ.1 20))
  refine s_aload_n C dX5_copyFrom_112 rfl ?_
  refine s_getr (k := 9) (j := 21) C y14 fw_X5_40 rfl dX5_copyFrom_113 ?_
  refine s_iconst C dX5_copyFrom_116 (by decide) (fun z19 tz19 => ?_)
  refine s_aload_n C dX5_copyFrom_117 rfl ?_
  refine s_getr (k := 9) (j := 8) C y1 fw_X5_40 rfl dX5_copyFrom_118 ?_
  refine s_iconst C dX5_copyFrom_121 (by decide) (fun z20 tz20 => ?_)
  refine s_bipush C dX5_copyFrom_122 (by decide) (fun z21 tz21 => ?_)
  refine s_copy (idx := 64) C y21 y8 (by omega) (by omega) (by omega) (mw 946 (by decide +kernel) rfl) (mw 685 (by decide +kernel) rfl) (mw 684 (by decide +kernel) rfl) (mw 74 (by decide +kernel) rfl) (by decide) (Nat.le_of_ble_eq_true rfl) dX5_copyFrom_124 ?_
  show WP E ad 127 [some (.ref (ad 1)), some (.ref (ad 14))] [] (sR (sR (sR (sR (sR (sR (sR (sV (sV (sV σ 1 0 (σ.1 14 0)) 1 1 (σ.1 14 1)) 1 2 (σ.1 14 2)) 2 (σ.1 15)) 3 (σ.1 16)) 4 (σ.1 17)) 5 (σ.1 18)) 6 (σ.1 19)) 7 (σ.1 20)) 8 (σ.1 21))
  refine s_aload_n C dX5_copyFrom_127 rfl ?_
  refine s_getr (k := 10) (j := 22) C y14 fw_X5_43 rfl dX5_copyFrom_128 ?_
  refine s_iconst C dX5_copyFrom_131 (by decide) (fun z22 tz22 => ?_)
  refine s_aload_n C dX5_copyFrom_132 rfl ?_
  refine s_getr (k := 10) (j := 9) C y1 fw_X5_43 rfl dX5_copyFrom_133 ?_
  refine s_iconst C dX5_copyFrom_136 (by decide) (fun z23 tz23 => ?_)
  refine s_bipush C dX5_copyFrom_137 (by decide) (fun z24 tz24 => ?_)
  refine s_copy (idx := 64) C y22 y9 (by omega) (by omega) (by omega) (mw 946 (by decide +kernel) rfl) (mw 685 (by decide +kernel) rfl) (mw 684 (by decide +kernel) rfl) (mw 74 (by decide +kernel) rfl) (by decide) (Nat.le_of_ble_eq_true rfl) dX5_copyFrom_139 ?_
  show WP E ad 142 [some (.ref (ad 1)), some (.ref (ad 14))] [] (sR (sR (sR (sR (sR (sR (sR (sR (sV (sV (sV σ 1 0 (σ.1 14 0)) 1 1 (σ.1 14 1)) 1 2 (σ.1 14 2)) 2 (σ.1 15)) 3 (σ.1 16)) 4 (σ.1 17)) 5 (σ.1 18)) 6 (σ.1 19)) 7 (σ.1 20)) 8 (σ.1 21)) 9 (σ.1 22))
  refine s_aload_n C dX5_copyFrom_142 rfl ?_
  refine s_getr (k := 11) (j := 23) C y14 fw_X5_46 rfl dX5_copyFrom_143 ?_
  refine s_iconst C dX5_copyFrom_146 (by decide) (fun z25 tz25 => ?_)
  refine s_aload_n C dX5_copyFrom_147 rfl ?_
  refine s_getr (k := 11) (j := 10) C y1 fw_X5_46 rfl dX5_copyFrom_148 ?_
  refine s_iconst C dX5_copyFrom_151 (by decide) (fun z26 tz26 => ?_)
  refine s_bipush C dX5_copyFrom_152 (by decide) (fun z27 tz27 => ?_)
  refine s_copy (idx := 64) C y23 y10 (by omega) (by omega) (by omega) (mw 946 (by decide +kernel) rfl) (mw 685 (by decide +kernel) rfl) (mw 684 (by decide +kernel) rfl) (mw 74 (by decide +kernel) rfl) (by decide) (Nat.le_of_ble_eq_true rfl) dX5_copyFrom_154 ?_
  show WP E ad 157 [some (.ref (ad 1)), some (.ref (ad 14))] [] (sR (sR (sR (sR (sR (sR (sR (sR (sR (sV (sV (sV σ 1 0 (σ.1 14 0)) 1 1 (σ.1 14 1)) 1 2 (σ.1 14 2)) 2 (σ.1 15)) 3 (σ.1 16)) 4 (σ.1 17)) 5 (σ.1 18)) 6 (σ.1 19)) 7 (σ.1 20)) 8 (σ.1 21)) 9 (σ.1 22)) 10 (σ.1 23))
  refine s_aload_n C dX5_copyFrom_157 rfl ?_
  refine s_getr (k := 12) (j := 24) C y14 fw_X5_49 rfl dX5_copyFrom_158 ?_
  refine s_iconst C dX5_copyFrom_161 (by decide) (fun z28 tz28 => ?_)
  refine s_aload_n C dX5_copyFrom_162 rfl ?_
  refine s_getr (k := 12) (j := 11) C y1 fw_X5_49 rfl dX5_copyFrom_163 ?_
  refine s_iconst C dX5_copyFrom_166 (by decide) (fun z29 tz29 => ?_)
  refine s_bipush C dX5_copyFrom_167 (by decide) (fun z30 tz30 => ?_)
  refine s_copy (idx := 64) C y24 y11 (by omega) (by omega) (by omega) (mw 946 (by decide +kernel) rfl) (mw 685 (by decide +kernel) rfl) (mw 684 (by decide +kernel) rfl) (mw 74 (by decide +kernel) rfl) (by decide) (Nat.le_of_ble_eq_true rfl) dX5_copyFrom_169 ?_
  show WP E ad 172 [some (.ref (ad 1)), some (.ref (ad 14))] [] (sR (sR (sR (sR (sR (sR (sR (sR (sR (sR (sV (sV (sV σ 1 0 (σ.1 14 0)) 1 1 (σ.1 14 1)) 1 2 (σ.1 14 2)) 2 (σ.1 15)) 3 (σ.1 16)) 4 (σ.1 17)) 5 (σ.1 18)) 6 (σ.1 19)) 7 (σ.1 20)) 8 (σ.1 21)) 9 (σ.1 22)) 10 (σ.1 23)) 11 (σ.1 24))
  refine s_aload_n C dX5_copyFrom_172 rfl ?_
  refine s_getr (k := 13) (j := 25) C y14 fw_X5_52 rfl dX5_copyFrom_173 ?_
  refine s_iconst C dX5_copyFrom_176 (by decide) (fun z31 tz31 => ?_)
  refine s_aload_n C dX5_copyFrom_177 rfl ?_
  refine s_getr (k := 13) (j := 12) C y1 fw_X5_52 rfl dX5_copyFrom_178 ?_
  refine s_iconst C dX5_copyFrom_181 (by decide) (fun z32 tz32 => ?_)
  refine s_bipush C dX5_copyFrom_182 (by decide) (fun z33 tz33 => ?_)
  refine s_copy (idx := 64) C y25 y12 (by omega) (by omega) (by omega) (mw 946 (by decide +kernel) rfl) (mw 685 (by decide +kernel) rfl) (mw 684 (by decide +kernel) rfl) (mw 74 (by decide +kernel) rfl) (by decide) (Nat.le_of_ble_eq_true rfl) dX5_copyFrom_184 ?_
  show WP E ad 187 [some (.ref (ad 1)), some (.ref (ad 14))] [] (sR (sR (sR (sR (sR (sR (sR (sR (sR (sR (sR (sV (sV (sV σ 1 0 (σ.1 14 0)) 1 1 (σ.1 14 1)) 1 2 (σ.1 14 2)) 2 (σ.1 15)) 3 (σ.1 16)) 4 (σ.1 17)) 5 (σ.1 18)) 6 (σ.1 19)) 7 (σ.1 20)) 8 (σ.1 21)) 9 (σ.1 22)) 10 (σ.1 23)) 11 (σ.1 24)) 12 (σ.1 25))
  refine s_aload_n C dX5_copyFrom_187 rfl ?_
  refine s_getr (k := 14) (j := 26) C y14 fw_X5_55 rfl dX5_copyFrom_188 ?_
  refine s_iconst C dX5_copyFrom_191 (by decide) (fun z34 tz34 => ?_)
  refine s_aload_n C dX5_copyFrom_192 rfl ?_
  refine s_getr (k := 14) (j := 13) C y1 fw_X5_55 rfl dX5_copyFrom_193 ?_
  refine s_iconst C dX5_copyFrom_196 (by decide) (fun z35 tz35 => ?_)
  refine s_bipush C dX5_copyFrom_197 (by decide) (fun z36 tz36 => ?_)
  refine s_copy (idx := 64) C y26 y13 (by omega) (by omega) (by omega) (mw 946 (by decide +kernel) rfl) (mw 685 (by decide +kernel) rfl) (mw 684 (by decide +kernel) rfl) (mw 74 (by decide +kernel) rfl) (by decide) (Nat.le_of_ble_eq_true rfl) dX5_copyFrom_199 ?_
  show WP E ad 202 [some (.ref (ad 1)), some (.ref (ad 14))] [] (sR (sR (sR (sR (sR (sR (sR (sR (sR (sR (sR (sR (sV (sV (sV σ 1 0 (σ.1 14 0)) 1 1 (σ.1 14 1)) 1 2 (σ.1 14 2)) 2 (σ.1 15)) 3 (σ.1 16)) 4 (σ.1 17)) 5 (σ.1 18)) 6 (σ.1 19)) 7 (σ.1 20)) 8 (σ.1 21)) 9 (σ.1 22)) 10 (σ.1 23)) 11 (σ.1 24)) 12 (σ.1 25)) 13 (σ.1 26))
  exact s_vret C X dX5_copyFrom_202 ⟨⟨hX.RI, hX.2.1, hX.2.2.1, hX.2.2.2.1, hX.2.2.2.2.1, hX.2.2.2.2.2.1, hX.2.2.2.2.2.2.1, hX.2.2.2.2.2.2.2.1, hX.2.2.2.2.2.2.2.2.1, hX.2.2.2.2.2.2.2.2.2.1, hX.2.2.2.2.2.2.2.2.2.2.1, hX.2.2.2.2.2.2.2.2.2.2.2.1, hX.2.2.2.2.2.2.2.2.2.2.2.2.1, hX.2.2.2.2.2.2.2.2.2.2.2.2.2⟩, (Fr.sR (Fr.sR (Fr.sR (Fr.sR (Fr.sR (Fr.sR (Fr.sR (Fr.sR (Fr.sR (Fr.sR (Fr.sR (Fr.sR (Fr.sV (Fr.sV (Fr.sV Fr.rf (Or.inr (by decide))) (Or.inr (by decide))) (Or.inr (by decide))) (by decide)) (by decide)) (by decide)) (by decide)) (by decide)) (by decide)) (by decide)) (by decide)) (by decide)) (by decide)) (by decide)) (by decide)), rfl, rfl, rfl⟩
set_option maxRecDepth 100000 in
theorem c_X5_copyFrom_14 (l : Launch) (ad : Nat → Nat) (σ : Sg) (hX : IX σ.1) : Mt l yX5_copyFrom cX5_copyFrom 2 none 1 ad σ [.ref (ad 14), .ref (ad 1)] (oV (fun τ => IX τ.1 ∧ Fr [15, 16, 17, 18, 19, 20, 21, 22, 23, 24, 25, 26] [(14, 0), (14, 1), (14, 2)] σ τ ∧ τ.1 14 0 = σ.1 1 0 ∧ τ.1 15 = σ.1 2 ∧ τ.1 14 1 = σ.1 1 1)) := by
  refine Mt_intro (by decide +kernel) (by simp [lg_sl, Value.category]) (fun E C X => ?_)
  show WP E ad 0 [some (.ref (ad 14)), some (.ref (ad 1))] [] σ
  refine s_aload_n C dX5_copyFrom_0 rfl ?_
  refine s_aload_n C dX5_copyFrom_1 rfl ?_
  refine s_get (k := 0) (x := (σ.1 1 0)) C y1 fw_X5_9 rfl rfl dX5_copyFrom_2 ?_
  refine s_put (k := 0) C y14 fw_X5_9 fp_4_0 rfl dX5_copyFrom_5 ?_
  refine s_aload_n C dX5_copyFrom_8 rfl ?_
  refine s_aload_n C dX5_copyFrom_9 rfl ?_
  refine s_get (k := 1) (x := (σ.1 1 1)) C y1 fw_X5_15 rfl rfl dX5_copyFrom_10 ?_
  refine s_put (k := 1) C y14 fw_X5_15 fp_4_1 rfl dX5_copyFrom_13 ?_
  refine s_aload_n C dX5_copyFrom_16 rfl ?_
  refine s_aload_n C dX5_copyFrom_17 rfl ?_
  refine s_get (k := 2) (x := (σ.1 1 2)) C y1 fw_X5_18 rfl rfl dX5_copyFrom_18 ?_
  refine s_put (k := 2) C y14 fw_X5_18 fp_4_2 rfl dX5_copyFrom_21 ?_
  refine s_aload_n C dX5_copyFrom_24 rfl ?_
  refine s_getr (k := 3) (j := 2) C y1 fw_X5_21 rfl dX5_copyFrom_25 ?_
  refine s_iconst C dX5_copyFrom_28 (by decide) (fun z1 tz1 => ?_)
  refine s_aload_n C dX5_copyFrom_29 rfl ?_
  refine s_getr (k := 3) (j := 15) C y14 fw_X5_21 rfl dX5_copyFrom_30 ?_
  refine s_iconst C dX5_copyFrom_33 (by decide) (fun z2 tz2 => ?_)
  refine s_iconst C dX5_copyFrom_34 (by decide) (fun z3 tz3 => ?_)
  refine s_copy (idx := 64) C y2 y15 (by omega) (by omega) (by omega) (mw 946 (by decide +kernel) rfl) (mw 685 (by decide +kernel) rfl) (mw 684 (by decide +kernel) rfl) (mw 74 (by decide +kernel) rfl) (by decide) (Nat.le_of_ble_eq_true rfl) dX5_copyFrom_35 ?_
  show WP E ad 38 [some (.ref (ad 14)), some (.ref (ad 1))] [] (sR (sV (sV (sV σ 14 0 (σ.1 1 0)) 14 1 (σ.1 1 1)) 14 2 (σ.1 1 2)) 15 (σ.1 2))
  refine s_aload_n C dX5_copyFrom_38 rfl ?_
  refine s_getr (k := 4) (j := 3) C y1 fw_X5_25 rfl dX5_copyFrom_39 ?_
  refine s_iconst C dX5_copyFrom_42 (by decide) (fun z4 tz4 => ?_)
  refine s_aload_n C dX5_copyFrom_43 rfl ?_
  refine s_getr (k := 4) (j := 16) C y14 fw_X5_25 rfl dX5_copyFrom_44 ?_
  refine s_iconst C dX5_copyFrom_47 (by decide) (fun z5 tz5 => ?_)
  refine s_iconst C dX5_copyFrom_48 (by decide) (fun z6 tz6 => ?_)
  refine s_copy (idx := 64) C y3 y16 (by omega) (by omega) (by omega) (mw 946 (by decide +kernel) rfl) (mw 685 (by decide +kernel) rfl) (mw 684 (by decide +kernel) rfl) (mw 74 (by decide +kernel) rfl) (by decide) (Nat.le_of_ble_eq_true rfl) dX5_copyFrom_49 ?_
  show WP E ad 52 [some (.ref (ad 14)), some (.ref (ad 1))] [] (sR (sR (sV (sV (sV σ 14 0 (σ.1 1 0)) 14 1 (σ.1 1 1)) 14 2 (σ.1 1 2)) 15 (σ.1 2)) 16 (σ.1 3))
  refine s_aload_n C dX5_copyFrom_52 rfl ?_
  refine s_getr (k := 5) (j := 4) C y1 fw_X5_28 rfl dX5_copyFrom_53 ?_
  refine s_iconst C dX5_copyFrom_56 (by decide) (fun z7 tz7 => ?_)
  refine s_aload_n C dX5_copyFrom_57 rfl ?_
  refine s_getr (k := 5) (j := 17) C y14 fw_X5_28 rfl dX5_copyFrom_58 ?_
  refine s_iconst C dX5_copyFrom_61 (by decide) (fun z8 tz8 => ?_)
  refine s_bipush C dX5_copyFrom_62 (by decide) (fun z9 tz9 => ?_)
  refine s_copy (idx := 64) C y4 y17 (by omega) (by omega) (by omega) (mw 946 (by decide +kernel) rfl) (mw 685 (by decide +kernel) rfl) (mw 684 (by decide +kernel) rfl) (mw 74 (by decide +kernel) rfl) (by decide) (Nat.le_of_ble_eq_true rfl) dX5_copyFrom_64 ?_
  show WP E ad 67 [some (.ref (ad 14)), some (.ref (ad 1))] [] (sR (sR (sR (sV (sV (sV σ 14 0 (σ.1 1 0)) 14 1 (σ.1 1 1)) 14 2 (σ.1 1 2)) 15 (σ.1 2)) 16 (σ.1 3)) 17 (σ.1 4))
  refine s_aload_n C dX5_copyFrom_67 rfl ?_
  refine s_getr (k := 6) (j := 5) C y1 fw_X5_31 rfl dX5_copyFrom_68 ?_
  refine s_iconst C dX5_copyFrom_71 (by decide) (fun z10 tz10 => ?_)
  refine s_aload_n C dX5_copyFrom_72 rfl ?_
  refine s_getr (k := 6) (j := 18) C y14 fw_X5_31 rfl dX5_copyFrom_73 ?_
  refine s_iconst C dX5_copyFrom_76 (by decide) (fun z11 tz11 => ?_)
  refine s_bipush C dX5_copyFrom_77 (by decide) (fun z12 tz12 => ?_)
  refine s_copy (idx := 64) C y5 y18 (by omega) (by omega) (by omega) (mw 946 (by decide +kernel) rfl) (mw 685 (by decide +kernel) rfl) (mw 684 (by decide +kernel) rfl) (mw 74 (by decide +kernel) rfl) (by decide) (Nat.le_of_ble_eq_true rfl) dX5_copyFrom_79 ?_
  show WP E ad 82 [some (.ref (ad 14)), some (.ref (ad 1))] [] (sR (sR (sR (sR (sV (sV (sV σ 14 0 (σ.1 1 0)) 14 1 (σ.1 1 1)) 14 2 (σ.1 1 2)) 15 (σ.1 2)) 16 (σ.1 3)) 17 (σ.1 4)) 18 (σ.1 5))
  refine s_aload_n C dX5_copyFrom_82 rfl ?_
  refine s_getr (k := 7) (j := 6) C y1 fw_X5_34 rfl dX5_copyFrom_83 ?_
  refine s_iconst C dX5_copyFrom_86 (by decide) (fun z13 tz13 => ?_)
  refine s_aload_n C dX5_copyFrom_87 rfl ?_
  refine s_getr (k := 7) (j := 19) C y14 fw_X5_34 rfl dX5_copyFrom_88 ?_
  refine s_iconst C dX5_copyFrom_91 (by decide) (fun z14 tz14 => ?_)
  refine s_bipush C dX5_copyFrom_92 (by decide) (fun z15 tz15 => ?_)
  refine s_copy (idx := 64) C y6 y19 (by omega) (by omega) (by omega) (mw 946 (by decide +kernel) rfl) (mw 685 (by decide +kernel) rfl) (mw 684 (by decide +kernel) rfl) (mw 74 (by decide +kernel) rfl) (by decide) (Nat.le_of_ble_eq_true rfl) dX5_copyFrom_94 ?_
  show WP E ad 97 [some (.ref (ad 14)), some (.ref (ad 1))] [] (sR (sR (sR (sR (sR (sV (sV (sV σ 14 0 (σ.1 1 0)) 14 1 (σ.1 1 1)) 14 2 (σ.1 1 2)) 15 (σ.1 2)) 16 (σ.1 3)) 17 (σ.1 4)) 18 (σ.1 5)) 19 (σ.1 6))
  refine s_aload_n C dX5_copyFrom_97 rfl ?_
  refine s_getr (k := 8) (j := 7) C y1 fw_X5_37 rfl dX5_copyFrom_98 ?_
  refine s_iconst C dX5_copyFrom_101 (by decide) (fun z16 tz16 => ?_)
  refine s_aload_n C dX5_copyFrom_102 rfl ?_
  refine s_getr (k := 8) (j := 20) C y14 fw_X5_37 rfl dX5_copyFrom_103 ?_
  refine s_iconst C dX5_copyFrom_106 (by decide) (fun z17 tz17 => ?_)
  refine s_bipush C dX5_copyFrom_107 (by decide) (fun z18 tz18 => ?_)
  refine s_copy (idx := 64) C y7 y20 (by omega) (by omega) (by omega) (mw 946 (by decide +kernel) rfl) (mw 685 (by decide +kernel) rfl) (mw 684 (by decide +kernel) rfl) (mw 74 (by decide +kernel) rfl) (by decide) (Nat.le_of_ble_eq_true rfl) dX5_copyFrom_109 ?_
  show WP E ad 112 [some (.ref (ad 14)), some (.ref (ad 1))] [] (sR (sR (sR (sR (sR (sR (sV (sV (sV σ 14 0 (σ.1 1 0)) 14 1 (σ.1 1 1)) 14 2 (σ.1 1 2)) 15 (σ.1 2)) 16 (σ.1 3)) 17 (σ.1 4)) 18 (σ.1 5)) 19 (σ.1 6)) 20 (σ.1 7))
  refine s_aload_n C dX5_copyFrom_112 rfl ?_
  refine s_getr (k := 9) (j := 8) C y1 fw_X5_40 rfl dX5_copyFrom_113 ?_
  refine s_iconst C dX5_copyFrom_116 (by decide) (fun z19 tz19 => ?_)
  refine s_aload_n C dX5_copyFrom_117 rfl ?_
  refine s_getr (k := 9) (j := 21) C y14 fw_X5_40 rfl dX5_copyFrom_118 ?_
  refine s_iconst C dX5_copyFrom_121 (by decide) (fun z20 tz20 => ?_)
  refine s_bipush C dX5_copyFrom_122 (by decide) (fun z21 tz21 => ?_)
  refine s_copy (idx := 64) C y8 y21 (by omega) (by omega) (by omega) (mw 946 (by decide +kernel) rfl) (mw 685 (by decide +kernel) rfl) (mw 684 (by decide +kernel) rfl) (mw 74 (by decide +kernel) rfl) (by decide) (Nat.le_of_ble_eq_true rfl) dX5_copyFrom_124 ?_
  show WP E ad 127 [some (.ref (ad 14)), some (.ref (ad 1))] [] (sR (sR (sR (sR (sR (sR (sR (sV (sV (sV σ 14 0 (σ.1 1 0)) 14 1 (σ.1 1 1)) 14 2 (σ.1 1 2)) 15 (σ.1 2)) 16 (σ.1 3)) 17 (σ.1 4)) 18 (σ.1 5)) 19 (σ.1 6)) 20 (σ.1 7)) 21 (σ.1 8))
  refine s_aload_n C dX5_copyFrom_127 rfl ?_
  refine s_getr (k := 10) (j := 9) C y1 fw_X5_43 rfl dX5_copyFrom_128 ?_
  refine s_iconst C dX5_copyFrom_131 (by decide) (fun z22 tz22 => ?_)
  refine s_aload_n C dX5_copyFrom_132 rfl ?_
  refine s_getr (k := 10) (j := 22) C y14 fw_X5_43 rfl dX5_copyFrom_133 ?_
  refine s_iconst C dX5_copyFrom_136 (by decide) (fun z23 tz23 => ?_)
  refine s_bipush C dX5_copyFrom_137 (by decide) (fun z24 tz24 => ?_)
  refine s_copy (idx := 64) C y9 y22 (by omega) (by omega) (by omega) (mw 946 (by decide +kernel) rfl) (mw 685 (by decide +kernel) rfl) (mw 684 (by decide +kernel) rfl) (mw 74 (by decide +kernel) rfl) (by decide) (Nat.le_of_ble_eq_true rfl) dX5_copyFrom_139 ?_
  show WP E ad 142 [some (.ref (ad 14)), some (.ref (ad 1))] [] (sR (sR (sR (sR (sR (sR (sR (sR (sV (sV (sV σ 14 0 (σ.1 1 0)) 14 1 (σ.1 1 1)) 14 2 (σ.1 1 2)) 15 (σ.1 2)) 16 (σ.1 3)) 17 (σ.1 4)) 18 (σ.1 5)) 19 (σ.1 6)) 20 (σ.1 7)) 21 (σ.1 8)) 22 (σ.1 9))
  refine s_aload_n C dX5_copyFrom_142 rfl ?_
  refine s_getr (k := 11) (j := 10) C y1 fw_X5_46 rfl dX5_copyFrom_143 ?_
  refine s_iconst C dX5_copyFrom_146 (by decide) (fun z25 tz25 => ?_)
  refine s_aload_n C dX5_copyFrom_147 rfl ?_
  refine s_getr (k := 11) (j := 23) C y14 fw_X5_46 rfl dX5_copyFrom_148 ?_
  refine s_iconst C dX5_copyFrom_151 (by decide) (fun z26 tz26 => ?_)
  refine s_bipush C dX5_copyFrom_152 (by decide) (fun z27 tz27 => ?_)
  refine s_copy (idx := 64) C y10 y23 (by omega) (by omega) (by omega) (mw 946 (by decide +kernel) rfl) (mw 685 (by decide +kernel) rfl) (mw 684 (by decide +kernel) rfl) (mw 74 (by decide +kernel) rfl) (by decide) (Nat.le_of_ble_eq_true rfl) dX5_copyFrom_154 ?_
  show WP E ad 157 [some (.ref (ad 14)), some (.ref (ad 1))] [] (sR (sR (sR (sR (sR (sR (sR (sR (sR (sV (sV (sV σ 14 0 (σ.1 1 0)) 14 1 (σ.1 1 1)) 14 2 (σ.1 1 2)) 15 (σ.1 2)) 16 (σ.1 3)) 17 (σ.1 4)) 18 (σ.1 5)) 19 (σ.1 6)) 20 (σ.1 7)) 21 (σ.1 8)) 22 (σ.1 9)) 23 (σ.1 10))
  refine s_aload_n C dX5_copyFrom_157 rfl ?_
  refine s_getr (k := 12) (j := 11) C y1 fw_X5_49 rfl dX5_copyFrom_158 ?_
  refine s_iconst C dX5_copyFrom_161 (by decide) (fun z28 tz28 => ?_)
  refine s_aload_n C dX5_copyFrom_162 rfl ?_
  refine s_getr (k := 12) (j := 24) C y14 fw_X5_49 rfl dX5_copyFrom_163 ?_
  refine s_iconst C dX5_copyFrom_166 (by decide) (fun z29 tz29 => ?_)
  refine s_bipush C dX5_copyFrom_167 (by decide) (fun z30 tz30 => ?_)
  refine s_copy (idx := 64) C y11 y24 (by omega) (by omega) (by omega) (mw 946 (by decide +kernel) rfl) (mw 685 (by decide +kernel) rfl) (mw 684 (by decide +kernel) rfl) (mw 74 (by decide +kernel) rfl) (by decide) (Nat.le_of_ble_eq_true rfl) dX5_copyFrom_169 ?_
  show WP E ad 172 [some (.ref (ad 14)), some (.ref (ad 1))] [] (sR (sR (sR (sR (sR (sR (sR (sR (sR (sR (sV (sV (sV σ 14 0 (σ.1 1 0)) 14 1 (σ.1 1 1)) 14 2 (σ.1 1 2)) 15 (σ.1 2)) 16 (σ.1 3)) 17 (σ.1 4)) 18 (σ.1 5)) 19 (σ.1 6)) 20 (σ.1 7)) 21 (σ.1 8)) 22 (σ.1 9)) 23 (σ.1 10)) 24 (σ.1 11))
  refine s_aload_n C dX5_copyFrom_172 rfl ?_
  refine s_getr (k := 13) (j := 12) C y1 fw_X5_52 rfl dX5_copyFrom_173 ?_
  refine s_iconst C dX5_copyFrom_176 (by decide) (fun z31 tz31 => ?_)
  refine s_aload_n C dX5_copyFrom_177 rfl ?_
  refine s_getr (k := 13) (j := 25) C y14 fw_X5_52 rfl dX5_copyFrom_178 ?_
  refine s_iconst C dX5_copyFrom_181 (by decide) (fun z32 tz32 => ?_)
  refine s_bipush C dX5_copyFrom_182 (by decide) (fun z33 tz33 => ?_)
  refine s_copy (idx := 64) C y12 y25 (by omega) (by omega) (by omega) (mw 946 (by decide +kernel) rfl) (mw 685 (by decide +kernel) rfl) (mw 684 (by decide +kernel) rfl) (mw 74 (by decide +kernel) rfl) (by decide) (Nat.le_of_ble_eq_true rfl) dX5_copyFrom_184 ?_
  show WP E ad 187 [some (.ref (ad 14)), some (.ref (ad 1))] [] (sR (sR (sR (sR (sR (sR (sR (sR (sR (sR (sR (sV (sV (sV σ 14 0 (σ.1 1 0)) 14 1 (σ.1 1 1)) 14 2 (σ.1 1 2)) 15 (σ.1 2)) 16 (σ.1 3)) 17 (σ.1 4)) 18 (σ.1 5)) 19 (σ.1 6)) 20 (σ.1 7)) 21 (σ.1 8)) 22 (σ.1 9)) 23 (σ.1 10)) 24 (σ.1 11)) 25 (σ.1 12))
  refine s_aload_n C dX5_copyFrom_187 rfl ?_
  refine s_getr (k := 14) (j := 13) C y1 fw_X5_55 rfl dX5_copyFrom_188 ?_
  refine s_iconst C dX5_copyFrom_191 (by decide) (fun z34 tz34 => ?_)
  refine s_aload_n C dX5_copyFrom_192 rfl ?_
  refine s_getr (k := 14) (j := 26) C y14 fw_X5_55 rfl dX5_copyFrom_193 ?_
  refine s_iconst C dX5_copyFrom_196 (by decide) (fun z35 tz35 => ?_)
  refine s_bipush C dX5_copyFrom_197 (by decide) (fun z36 tz36 => ?_)
  refine s_copy (idx := 64) C y13 y26 (by omega) (by omega) (by omega) (mw 946 (by decide +kernel) rfl) (mw 685 (by decide +kernel) rfl) (mw 684 (by decide +kernel) rfl) (mw 74 (by decide +kernel) rfl) (by decide) (Nat.le_of_ble_eq_true rfl) dX5_copyFrom_199 ?_
  show WP E ad 202 [some (.ref (ad 14)), some (.ref (ad 1))] [] (sR (sR (sR (sR (sR (sR (sR (sR (sR (sR (sR (sR (sV (sV (sV σ 14 0 (σ.1 1 0)) 14 1 (σ.1 1 1)) 14 2 (σ.1 1 2)) 15 (σ.1 2)) 16 (σ.1 3)) 17 (σ.1 4)) 18 (σ.1 5)) 19 (σ.1 6)) 20 (σ.1 7)) 21 (σ.1 8)) 22 (σ.1 9)) 23 (σ.1 10)) 24 (σ.1 11)) 25 (σ.1 12)) 26 (σ.1 13))
  exact s_vret C X dX5_copyFrom_202 ⟨⟨hX.1, hX.RU, hX.2.2.1, hX.2.2.2.1, hX.2.2.2.2.1, hX.2.2.2.2.2.1, hX.2.2.2.2.2.2.1, hX.2.2.2.2.2.2.2.1, hX.2.2.2.2.2.2.2.2.1, hX.2.2.2.2.2.2.2.2.2.1, hX.2.2.2.2.2.2.2.2.2.2.1, hX.2.2.2.2.2.2.2.2.2.2.2.1, hX.2.2.2.2.2.2.2.2.2.2.2.2.1, hX.2.2.2.2.2.2.2.2.2.2.2.2.2⟩, (Fr.sR (Fr.sR (Fr.sR (Fr.sR (Fr.sR (Fr.sR (Fr.sR (Fr.sR (Fr.sR (Fr.sR (Fr.sR (Fr.sR (Fr.sV (Fr.sV (Fr.sV Fr.rf (Or.inr (by decide))) (Or.inr (by decide))) (Or.inr (by decide))) (by decide)) (by decide)) (by decide)) (by decide)) (by decide)) (by decide)) (by decide)) (by decide)) (by decide)) (by decide)) (by decide)) (by decide)), rfl, rfl, rfl⟩
set_option maxRecDepth 100000 in
theorem c_X5_openMessage (l : Launch) (ad : Nat → Nat) (σ : Sg) (p : Int32) (hp : 0 ≤ p.toInt ∧ p.toInt ≤ 3) (hm : 0 ≤ (σ.1 1 2).toInt ∧ (σ.1 1 2).toInt ≤ 7) (hv : 0 ≤ (σ.1 3 p.toNatClampNeg).toInt ∧ (σ.1 3 p.toNatClampNeg).toInt ≤ 5) : Mt l yX5_openMessage cX5_openMessage 3 (some .int) 0 ad σ [.ref (ad 1), .int p] (oI (fun r τ => r = σ.1 1 2 ∧ ∃ k a b c : Int32, k.toInt = (σ.1 3 p.toNatClampNeg).toInt + 1 ∧ a.toInt = -5 ∧ c.toInt = (σ.1 1 2).toInt + 1 ∧ τ = sV (sV (sV (sV (sV σ 10 (σ.1 1 2).toNatClampNeg p) 11 (σ.1 1 2).toNatClampNeg k) 12 (σ.1 1 2).toNatClampNeg a) 13 (σ.1 1 2).toNatClampNeg b) 1 2 c)) := by
  refine Mt_intro (by decide +kernel) (by simp [lg_sl, Value.category]) (fun E C X => ?_)
  show WP E ad 0 [some (.ref (ad 1)), some (.int p), none] [] σ
  refine s_aload_n C dX5_openMessage_0 rfl ?_
  refine s_get (k := 2) (x := (σ.1 1 2)) C y1 fw_X5_18 rfl rfl dX5_openMessage_1 ?_
  refine s_istore_n C dX5_openMessage_4 (by decide) (Nat.le_of_ble_eq_true rfl) rfl ?_
  show WP E ad 5 [some (.ref (ad 1)), some (.int p), some (.int (σ.1 1 2))] [] σ
  refine s_aload_n C dX5_openMessage_5 rfl ?_
  refine s_getr (k := 11) (j := 10) C y1 fw_X5_46 rfl dX5_openMessage_6 ?_
  refine s_iload_n C dX5_openMessage_9 rfl ?_
  refine s_iload_n C dX5_openMessage_10 rfl ?_
  refine s_iast C y10 (by omega) dX5_openMessage_11 ?_
  refine s_aload_n C dX5_openMessage_12 rfl ?_
  refine s_getr (k := 12) (j := 11) C y1 fw_X5_49 rfl dX5_openMessage_13 ?_
  refine s_iload_n C dX5_openMessage_16 rfl ?_
  refine s_aload_n C dX5_openMessage_17 rfl ?_
  refine s_getr (k := 4) (j := 3) C y1 fw_X5_25 rfl dX5_openMessage_18 ?_
  refine s_iload_n C dX5_openMessage_21 rfl ?_
  refine s_iald (r := (σ.1 3 p.toNatClampNeg)) C y3 (by omega) rfl dX5_openMessage_22 ?_
  refine s_iconst C dX5_openMessage_23 (by decide) (fun z1 tz1 => ?_)
  refine s_iadd C dX5_openMessage_24 (by omega) (fun z2 tz2 => ?_)
  refine s_iast C y11 (by omega) dX5_openMessage_25 ?_
  refine s_aload_n C dX5_openMessage_26 rfl ?_
  refine s_getr (k := 13) (j := 12) C y1 fw_X5_52 rfl dX5_openMessage_27 ?_
  refine s_iload_n C dX5_openMessage_30 rfl ?_
  refine s_bipush C dX5_openMessage_31 (by decide) (fun z3 tz3 => ?_)
  refine s_iast C y12 (by omega) dX5_openMessage_33 ?_
  refine s_aload_n C dX5_openMessage_34 rfl ?_
  refine s_getr (k := 14) (j := 13) C y1 fw_X5_55 rfl dX5_openMessage_35 ?_
  refine s_iload_n C dX5_openMessage_38 rfl ?_
  refine s_bipush C dX5_openMessage_39 (by decide) (fun z4 tz4 => ?_)
  refine s_iast C y13 (by omega) dX5_openMessage_41 ?_
  refine s_aload_n C dX5_openMessage_42 rfl ?_
  refine s_dup C dX5_openMessage_43 rfl ?_
  refine s_get (k := 2) (x := (σ.1 1 2)) C y1 fw_X5_18 rfl rfl dX5_openMessage_44 ?_
  refine s_iconst C dX5_openMessage_47 (by decide) (fun z5 tz5 => ?_)
  refine s_iadd C dX5_openMessage_48 (by omega) (fun z6 tz6 => ?_)
  refine s_put (k := 2) C y1 fw_X5_18 fp_4_2 rfl dX5_openMessage_49 ?_
  refine s_iload_n C dX5_openMessage_52 rfl ?_
  exact s_iret C X dX5_openMessage_53 ⟨rfl, z2, z3, z4, z6, by omega, by omega, by omega, rfl⟩
set_option maxRecDepth 100000 in
theorem c_X5_closeMessage (l : Launch) (ad : Nat → Nat) (σ : Sg) (m p : Int32) (hm : 0 ≤ m.toInt ∧ m.toInt ≤ 7) (hp : 0 ≤ p.toInt ∧ p.toInt ≤ 3) : Mt l yX5_closeMessage cX5_closeMessage 3 none 0 ad σ [.ref (ad 1), .int m, .int p] (oV (fun τ => τ = sV (sV σ 12 m.toNatClampNeg p) 13 m.toNatClampNeg (σ.1 3 p.toNatClampNeg))) := by
  refine Mt_intro (by decide +kernel) (by simp [lg_sl, Value.category]) (fun E C X => ?_)
  show WP E ad 0 [some (.ref (ad 1)), some (.int m), some (.int p)] [] σ
  refine s_aload_n C dX5_closeMessage_0 rfl ?_
  refine s_getr (k := 13) (j := 12) C y1 fw_X5_52 rfl dX5_closeMessage_1 ?_
  refine s_iload_n C dX5_closeMessage_4 rfl ?_
  refine s_iload_n C dX5_closeMessage_5 rfl ?_
  refine s_iast C y12 (by omega) dX5_closeMessage_6 ?_
  refine s_aload_n C dX5_closeMessage_7 rfl ?_
  refine s_getr (k := 14) (j := 13) C y1 fw_X5_55 rfl dX5_closeMessage_8 ?_
  refine s_iload_n C dX5_closeMessage_11 rfl ?_
  refine s_aload_n C dX5_closeMessage_12 rfl ?_
  refine s_getr (k := 4) (j := 3) C y1 fw_X5_25 rfl dX5_closeMessage_13 ?_
  refine s_iload_n C dX5_closeMessage_16 rfl ?_
  refine s_iald (r := (σ.1 3 p.toNatClampNeg)) C y3 (by omega) rfl dX5_closeMessage_17 ?_
  refine s_iast C y13 (by omega) dX5_closeMessage_18 ?_
  exact s_vret C X dX5_closeMessage_19 rfl
set_option maxRecDepth 100000 in
theorem c_X5_append (l : Launch) (ad : Nat → Nat) (σ : Sg) (p w m v : Int32) (hpr : 1 ≤ (σ.1 1 0).toInt ∧ (σ.1 1 0).toInt ≤ 4) (hp : 0 ≤ p.toInt ∧ p.toInt ≤ 3) (hev : 0 ≤ (σ.1 3 p.toNatClampNeg).toInt ∧ (σ.1 3 p.toNatClampNeg).toInt < 5) (ht : 0 ≤ (σ.1 1 1).toInt ∧ (σ.1 1 1).toInt < 20) (hfr : w.toInt = 2 → 0 ≤ m.toInt ∧ m.toInt ≤ 7 ∧ 0 ≤ (σ.1 10 m.toNatClampNeg).toInt ∧ (σ.1 10 m.toNatClampNeg).toInt ≤ 3 ∧ 1 ≤ (σ.1 11 m.toNatClampNeg).toInt ∧ (σ.1 11 m.toNatClampNeg).toInt ≤ 5) : Mt l yX5_append cX5_append 8 none 2 ad σ [.ref (ad 1), .int p, .int w, .int m, .int v] (oV (fun τ => App σ τ p w m)) := by
  refine Mt_intro (by decide +kernel) (by simp [lg_sl, Value.category]) (fun E C X => ?_)
  show WP E ad 0 [some (.ref (ad 1)), some (.int p), some (.int w), some (.int m), some (.int v), none, none, none] [] σ
  refine s_aload_n C dX5_append_0 rfl ?_
  refine s_getr (k := 4) (j := 3) C y1 fw_X5_25 rfl dX5_append_1 ?_
  refine s_iload_n C dX5_append_4 rfl ?_
  refine s_iald (r := (σ.1 3 p.toNatClampNeg)) C y3 (by omega) rfl dX5_append_5 ?_
  refine s_iconst C dX5_append_6 (by decide) (fun z1 tz1 => ?_)
  refine s_iadd C dX5_append_7 (by omega) (fun z2 tz2 => ?_)
  refine s_istore C dX5_append_8 (by decide) (Nat.le_of_ble_eq_true rfl) rfl ?_
  show WP E ad 10 [some (.ref (ad 1)), some (.int p), some (.int w), some (.int m), some (.int v), some (.int z2), none, none] [] σ
  refine s_iload_n C dX5_append_10 rfl ?_
  refine s_iload C dX5_append_11 rfl ?_
  refine s_callSI (st := []) C (c_X5_spotOf l ad σ p z2 (by omega) (by omega)) cv_X5_74 rfl rfl ⟨by decide, by decide⟩ (Nat.le_of_ble_eq_true rfl) dX5_append_13 ?_
  intro r3 τ4 h5
  obtain ⟨eh5, h5⟩ := h5; replace eh5 := eh5.symm; subst eh5
  have hE : r3.toNatClampNeg = 5 * p.toNatClampNeg + (σ.1 3 p.toNatClampNeg).toInt.toNat := by unfold Int32.toNatClampNeg at *; omega
  refine s_istore C dX5_append_16 (by decide) (Nat.le_of_ble_eq_true rfl) rfl ?_
  show WP E ad 18 [some (.ref (ad 1)), some (.int p), some (.int w), some (.int m), some (.int v), some (.int z2), some (.int r3), none] [] σ
  refine s_iload C dX5_append_18 rfl ?_
  refine s_iconst C dX5_append_20 (by decide) (fun z6 tz6 => ?_)
  refine s_icmp_ne (tgt := 28) C dX5_append_21 (by decide) (fun q7 => ?_) (fun q7 => ?_)
  · refine s_aload_n C dX5_append_28 rfl ?_
    refine s_getr (k := 10) (j := 9) C y1 fw_X5_43 rfl dX5_append_29 ?_
    refine s_iload C dX5_append_32 rfl ?_
    refine s_iconst C dX5_append_34 (by decide) (fun z8 tz8 => ?_)
    refine s_isub C dX5_append_35 (by omega) (fun z9 tz9 => ?_)
    refine s_iald (r := (σ.1 9 z9.toNatClampNeg)) C y9 (by omega) rfl dX5_append_36 ?_
    refine s_istore C dX5_append_37 (by decide) (Nat.le_of_ble_eq_true rfl) rfl ?_
    show WP E ad 39 [some (.ref (ad 1)), some (.int p), some (.int w), some (.int m), some (.int v), some (.int z2), some (.int r3), some (.int (σ.1 9 z9.toNatClampNeg))] [] σ
    refine s_iload_n C dX5_append_39 rfl ?_
    refine s_iconst C dX5_append_40 (by decide) (fun z10 tz10 => ?_)
    refine s_icmp_ne (tgt := 67) C dX5_append_41 (by decide) (fun q11 => ?_) (fun q11 => ?_)
    · refine s_aload_n C dX5_append_67 rfl ?_
      refine s_getr (k := 10) (j := 9) C y1 fw_X5_43 rfl dX5_append_68 ?_
      refine s_iload C dX5_append_71 rfl ?_
      refine s_iload C dX5_append_73 rfl ?_
      refine s_aload_n C dX5_append_75 rfl ?_
      refine s_iload_n C dX5_append_76 rfl ?_
      refine s_callVI (st := [.int (σ.1 9 z9.toNatClampNeg), .int r3, .ref (ad 9)]) C (c_X5_placeOf l ad σ p (by omega) (by omega)) cv_X5_86 y1 rfl rfl rfl ⟨by decide, by decide⟩ (Nat.le_of_ble_eq_true rfl) dX5_append_77 ?_
      intro r12 τ13 h14
      obtain ⟨eh14, h14⟩ := h14; replace eh14 := eh14.symm; subst eh14
      refine s_callSI (st := [.int (σ.1 9 z9.toNatClampNeg), .int r3, .ref (ad 9)]) C (c_X4_one l ad σ r12 ) cv_X5_90 rfl rfl ⟨by decide, by decide⟩ (Nat.le_of_ble_eq_true rfl) dX5_append_80 ?_
      intro r15 τ16 h17
      obtain ⟨eh17, h17⟩ := h17; replace eh17 := eh17.symm; subst eh17
      refine s_iaddU C dX5_append_83 (fun z18 tz18 => ?_)
      refine s_iast C y9 (by omega) dX5_append_84 ?_
      refine s_aload_n C dX5_append_85 rfl ?_
      refine s_getr (k := 6) (j := 5) C y1 fw_X5_31 rfl dX5_append_86 ?_
      refine s_iload C dX5_append_89 rfl ?_
      refine s_iload_n C dX5_append_91 rfl ?_
      refine s_iast C y5 (by omega) dX5_append_92 ?_
      refine s_aload_n C dX5_append_93 rfl ?_
      refine s_getr (k := 7) (j := 6) C y1 fw_X5_34 rfl dX5_append_94 ?_
      refine s_iload C dX5_append_97 rfl ?_
      refine s_iload C dX5_append_99 rfl ?_
      refine s_iast C y6 (by omega) dX5_append_101 ?_
      refine s_aload_n C dX5_append_102 rfl ?_
      refine s_getr (k := 8) (j := 7) C y1 fw_X5_37 rfl dX5_append_103 ?_
      refine s_iload C dX5_append_106 rfl ?_
      refine s_iload_n C dX5_append_108 rfl ?_
      refine s_iast C y7 (by omega) dX5_append_109 ?_
      refine s_aload_n C dX5_append_110 rfl ?_
      refine s_getr (k := 9) (j := 8) C y1 fw_X5_40 rfl dX5_append_111 ?_
      refine s_iload C dX5_append_114 rfl ?_
      refine s_iconst C dX5_append_116 (by decide) (fun z19 tz19 => ?_)
      refine s_iast C y8 (by omega) dX5_append_117 ?_
      refine s_aload_n C dX5_append_118 rfl ?_
      refine s_getr (k := 5) (j := 4) C y1 fw_X5_28 rfl dX5_append_119 ?_
      refine s_aload_n C dX5_append_122 rfl ?_
      refine s_get (k := 1) (x := (σ.1 1 1)) C y1 fw_X5_15 rfl rfl dX5_append_123 ?_
      refine s_iload_n C dX5_append_126 rfl ?_
      refine s_iast C y4 (by omega) dX5_append_127 ?_
      refine s_aload_n C dX5_append_128 rfl ?_
      refine s_dup C dX5_append_129 rfl ?_
      refine s_get (k := 1) (x := (σ.1 1 1)) C y1 fw_X5_15 rfl rfl dX5_append_130 ?_
      refine s_iconst C dX5_append_133 (by decide) (fun z20 tz20 => ?_)
      refine s_iadd C dX5_append_134 (by omega) (fun z21 tz21 => ?_)
      refine s_put (k := 1) C y1 fw_X5_15 fp_4_1 rfl dX5_append_135 ?_
      refine s_aload_n C dX5_append_138 rfl ?_
      refine s_getr (k := 4) (j := 3) C y1 fw_X5_25 rfl dX5_append_139 ?_
      refine s_iload_n C dX5_append_142 rfl ?_
      refine s_iload C dX5_append_143 rfl ?_
      refine s_iast C y3 (by omega) dX5_append_145 ?_
      exact s_vret C X dX5_append_146 ⟨(Fr.sV (Fr.sV (Fr.sV (Fr.sV (Fr.sV (Fr.sV (Fr.sV (Fr.sV Fr.rf (Or.inl (by decide))) (Or.inl (by decide))) (Or.inl (by decide))) (Or.inl (by decide))) (Or.inl (by decide))) (Or.inl (by decide))) (Or.inr (by decide))) (Or.inl (by decide))), z2, by omega, rfl, rfl, (by show upd (σ.1 5) r3.toNatClampNeg w = _; rw [hE]), (by show upd (σ.1 7) r3.toNatClampNeg m = _; rw [hE]), (by show Int32.toInt z21 = _; omega)⟩
    · refine s_iload C dX5_append_44 rfl ?_
      refine s_aload_n C dX5_append_46 rfl ?_
      refine s_aload_n C dX5_append_47 rfl ?_
      refine s_getr (k := 11) (j := 10) C y1 fw_X5_46 rfl dX5_append_48 ?_
      have hfr2 := hfr (by omega)
      refine s_iload_n C dX5_append_51 rfl ?_
      refine s_iald (r := (σ.1 10 m.toNatClampNeg)) C y10 (by omega) rfl dX5_append_52 ?_
      refine s_aload_n C dX5_append_53 rfl ?_
      refine s_getr (k := 12) (j := 11) C y1 fw_X5_49 rfl dX5_append_54 ?_
      refine s_iload_n C dX5_append_57 rfl ?_
      refine s_iald (r := (σ.1 11 m.toNatClampNeg)) C y11 (by omega) rfl dX5_append_58 ?_
      refine s_callVI (st := [.int (σ.1 9 z9.toNatClampNeg)]) C (c_X5_clockOf l ad σ ((σ.1 10 m.toNatClampNeg)) ((σ.1 11 m.toNatClampNeg)) (by omega) (by omega)) cv_X5_78 y1 rfl rfl rfl ⟨by decide, by decide⟩ (Nat.le_of_ble_eq_true rfl) dX5_append_59 ?_
      intro r22 τ23 h24
      obtain ⟨eh24, h24⟩ := h24; replace eh24 := eh24.symm; subst eh24
      refine s_callSI (st := []) C (c_X4_greater l ad σ ((σ.1 9 z9.toNatClampNeg)) r22 ) cv_X5_81 rfl rfl ⟨by decide, by decide⟩ (Nat.le_of_ble_eq_true rfl) dX5_append_62 ?_
      intro r25 τ26 h27
      obtain ⟨eh27, h27⟩ := h27; replace eh27 := eh27.symm; subst eh27
      refine s_istore C dX5_append_65 (by decide) (Nat.le_of_ble_eq_true rfl) rfl ?_
      show WP E ad 67 [some (.ref (ad 1)), some (.int p), some (.int w), some (.int m), some (.int v), some (.int z2), some (.int r3), some (.int r25)] [] σ
      refine s_aload_n C dX5_append_67 rfl ?_
      refine s_getr (k := 10) (j := 9) C y1 fw_X5_43 rfl dX5_append_68 ?_
      refine s_iload C dX5_append_71 rfl ?_
      refine s_iload C dX5_append_73 rfl ?_
      refine s_aload_n C dX5_append_75 rfl ?_
      refine s_iload_n C dX5_append_76 rfl ?_
      refine s_callVI (st := [.int r25, .int r3, .ref (ad 9)]) C (c_X5_placeOf l ad σ p (by omega) (by omega)) cv_X5_86 y1 rfl rfl rfl ⟨by decide, by decide⟩ (Nat.le_of_ble_eq_true rfl) dX5_append_77 ?_
      intro r28 τ29 h30
      obtain ⟨eh30, h30⟩ := h30; replace eh30 := eh30.symm; subst eh30
      refine s_callSI (st := [.int r25, .int r3, .ref (ad 9)]) C (c_X4_one l ad σ r28 ) cv_X5_90 rfl rfl ⟨by decide, by decide⟩ (Nat.le_of_ble_eq_true rfl) dX5_append_80 ?_
      intro r31 τ32 h33
      obtain ⟨eh33, h33⟩ := h33; replace eh33 := eh33.symm; subst eh33
      refine s_iaddU C dX5_append_83 (fun z34 tz34 => ?_)
      refine s_iast C y9 (by omega) dX5_append_84 ?_
      refine s_aload_n C dX5_append_85 rfl ?_
      refine s_getr (k := 6) (j := 5) C y1 fw_X5_31 rfl dX5_append_86 ?_
      refine s_iload C dX5_append_89 rfl ?_
      refine s_iload_n C dX5_append_91 rfl ?_
      refine s_iast C y5 (by omega) dX5_append_92 ?_
      refine s_aload_n C dX5_append_93 rfl ?_
      refine s_getr (k := 7) (j := 6) C y1 fw_X5_34 rfl dX5_append_94 ?_
      refine s_iload C dX5_append_97 rfl ?_
      refine s_iload C dX5_append_99 rfl ?_
      refine s_iast C y6 (by omega) dX5_append_101 ?_
      refine s_aload_n C dX5_append_102 rfl ?_
      refine s_getr (k := 8) (j := 7) C y1 fw_X5_37 rfl dX5_append_103 ?_
      refine s_iload C dX5_append_106 rfl ?_
      refine s_iload_n C dX5_append_108 rfl ?_
      refine s_iast C y7 (by omega) dX5_append_109 ?_
      refine s_aload_n C dX5_append_110 rfl ?_
      refine s_getr (k := 9) (j := 8) C y1 fw_X5_40 rfl dX5_append_111 ?_
      refine s_iload C dX5_append_114 rfl ?_
      refine s_iconst C dX5_append_116 (by decide) (fun z35 tz35 => ?_)
      refine s_iast C y8 (by omega) dX5_append_117 ?_
      refine s_aload_n C dX5_append_118 rfl ?_
      refine s_getr (k := 5) (j := 4) C y1 fw_X5_28 rfl dX5_append_119 ?_
      refine s_aload_n C dX5_append_122 rfl ?_
      refine s_get (k := 1) (x := (σ.1 1 1)) C y1 fw_X5_15 rfl rfl dX5_append_123 ?_
      refine s_iload_n C dX5_append_126 rfl ?_
      refine s_iast C y4 (by omega) dX5_append_127 ?_
      refine s_aload_n C dX5_append_128 rfl ?_
      refine s_dup C dX5_append_129 rfl ?_
      refine s_get (k := 1) (x := (σ.1 1 1)) C y1 fw_X5_15 rfl rfl dX5_append_130 ?_
      refine s_iconst C dX5_append_133 (by decide) (fun z36 tz36 => ?_)
      refine s_iadd C dX5_append_134 (by omega) (fun z37 tz37 => ?_)
      refine s_put (k := 1) C y1 fw_X5_15 fp_4_1 rfl dX5_append_135 ?_
      refine s_aload_n C dX5_append_138 rfl ?_
      refine s_getr (k := 4) (j := 3) C y1 fw_X5_25 rfl dX5_append_139 ?_
      refine s_iload_n C dX5_append_142 rfl ?_
      refine s_iload C dX5_append_143 rfl ?_
      refine s_iast C y3 (by omega) dX5_append_145 ?_
      exact s_vret C X dX5_append_146 ⟨(Fr.sV (Fr.sV (Fr.sV (Fr.sV (Fr.sV (Fr.sV (Fr.sV (Fr.sV Fr.rf (Or.inl (by decide))) (Or.inl (by decide))) (Or.inl (by decide))) (Or.inl (by decide))) (Or.inl (by decide))) (Or.inl (by decide))) (Or.inr (by decide))) (Or.inl (by decide))), z2, by omega, rfl, rfl, (by show upd (σ.1 5) r3.toNatClampNeg w = _; rw [hE]), (by show upd (σ.1 7) r3.toNatClampNeg m = _; rw [hE]), (by show Int32.toInt z37 = _; omega)⟩
  · refine s_iconst C dX5_append_24 (by decide) (fun z38 tz38 => ?_)
    refine s_goto (tgt := 37) C dX5_append_25 (by decide) ?_
    refine s_istore C dX5_append_37 (by decide) (Nat.le_of_ble_eq_true rfl) rfl ?_
    show WP E ad 39 [some (.ref (ad 1)), some (.int p), some (.int w), some (.int m), some (.int v), some (.int z2), some (.int r3), some (.int z38)] [] σ
    refine s_iload_n C dX5_append_39 rfl ?_
    refine s_iconst C dX5_append_40 (by decide) (fun z39 tz39 => ?_)
    refine s_icmp_ne (tgt := 67) C dX5_append_41 (by decide) (fun q40 => ?_) (fun q40 => ?_)
    · refine s_aload_n C dX5_append_67 rfl ?_
      refine s_getr (k := 10) (j := 9) C y1 fw_X5_43 rfl dX5_append_68 ?_
      refine s_iload C dX5_append_71 rfl ?_
      refine s_iload C dX5_append_73 rfl ?_
      refine s_aload_n C dX5_append_75 rfl ?_
      refine s_iload_n C dX5_append_76 rfl ?_
      refine s_callVI (st := [.int z38, .int r3, .ref (ad 9)]) C (c_X5_placeOf l ad σ p (by omega) (by omega)) cv_X5_86 y1 rfl rfl rfl ⟨by decide, by decide⟩ (Nat.le_of_ble_eq_true rfl) dX5_append_77 ?_
      intro r41 τ42 h43
      obtain ⟨eh43, h43⟩ := h43; replace eh43 := eh43.symm; subst eh43
      refine s_callSI (st := [.int z38, .int r3, .ref (ad 9)]) C (c_X4_one l ad σ r41 ) cv_X5_90 rfl rfl ⟨by decide, by decide⟩ (Nat.le_of_ble_eq_true rfl) dX5_append_80 ?_
      intro r44 τ45 h46
      obtain ⟨eh46, h46⟩ := h46; replace eh46 := eh46.symm; subst eh46
      refine s_iaddU C dX5_append_83 (fun z47 tz47 => ?_)
      refine s_iast C y9 (by omega) dX5_append_84 ?_
      refine s_aload_n C dX5_append_85 rfl ?_
      refine s_getr (k := 6) (j := 5) C y1 fw_X5_31 rfl dX5_append_86 ?_
      refine s_iload C dX5_append_89 rfl ?_
      refine s_iload_n C dX5_append_91 rfl ?_
      refine s_iast C y5 (by omega) dX5_append_92 ?_
      refine s_aload_n C dX5_append_93 rfl ?_
      refine s_getr (k := 7) (j := 6) C y1 fw_X5_34 rfl dX5_append_94 ?_
      refine s_iload C dX5_append_97 rfl ?_
      refine s_iload C dX5_append_99 rfl ?_
      refine s_iast C y6 (by omega) dX5_append_101 ?_
      refine s_aload_n C dX5_append_102 rfl ?_
      refine s_getr (k := 8) (j := 7) C y1 fw_X5_37 rfl dX5_append_103 ?_
      refine s_iload C dX5_append_106 rfl ?_
      refine s_iload_n C dX5_append_108 rfl ?_
      refine s_iast C y7 (by omega) dX5_append_109 ?_
      refine s_aload_n C dX5_append_110 rfl ?_
      refine s_getr (k := 9) (j := 8) C y1 fw_X5_40 rfl dX5_append_111 ?_
      refine s_iload C dX5_append_114 rfl ?_
      refine s_iconst C dX5_append_116 (by decide) (fun z48 tz48 => ?_)
      refine s_iast C y8 (by omega) dX5_append_117 ?_
      refine s_aload_n C dX5_append_118 rfl ?_
      refine s_getr (k := 5) (j := 4) C y1 fw_X5_28 rfl dX5_append_119 ?_
      refine s_aload_n C dX5_append_122 rfl ?_
      refine s_get (k := 1) (x := (σ.1 1 1)) C y1 fw_X5_15 rfl rfl dX5_append_123 ?_
      refine s_iload_n C dX5_append_126 rfl ?_
      refine s_iast C y4 (by omega) dX5_append_127 ?_
      refine s_aload_n C dX5_append_128 rfl ?_
      refine s_dup C dX5_append_129 rfl ?_
      refine s_get (k := 1) (x := (σ.1 1 1)) C y1 fw_X5_15 rfl rfl dX5_append_130 ?_
      refine s_iconst C dX5_append_133 (by decide) (fun z49 tz49 => ?_)
      refine s_iadd C dX5_append_134 (by omega) (fun z50 tz50 => ?_)
      refine s_put (k := 1) C y1 fw_X5_15 fp_4_1 rfl dX5_append_135 ?_
      refine s_aload_n C dX5_append_138 rfl ?_
      refine s_getr (k := 4) (j := 3) C y1 fw_X5_25 rfl dX5_append_139 ?_
      refine s_iload_n C dX5_append_142 rfl ?_
      refine s_iload C dX5_append_143 rfl ?_
      refine s_iast C y3 (by omega) dX5_append_145 ?_
      exact s_vret C X dX5_append_146 ⟨(Fr.sV (Fr.sV (Fr.sV (Fr.sV (Fr.sV (Fr.sV (Fr.sV (Fr.sV Fr.rf (Or.inl (by decide))) (Or.inl (by decide))) (Or.inl (by decide))) (Or.inl (by decide))) (Or.inl (by decide))) (Or.inl (by decide))) (Or.inr (by decide))) (Or.inl (by decide))), z2, by omega, rfl, rfl, (by show upd (σ.1 5) r3.toNatClampNeg w = _; rw [hE]), (by show upd (σ.1 7) r3.toNatClampNeg m = _; rw [hE]), (by show Int32.toInt z50 = _; omega)⟩
    · refine s_iload C dX5_append_44 rfl ?_
      refine s_aload_n C dX5_append_46 rfl ?_
      refine s_aload_n C dX5_append_47 rfl ?_
      refine s_getr (k := 11) (j := 10) C y1 fw_X5_46 rfl dX5_append_48 ?_
      have hfr2 := hfr (by omega)
      refine s_iload_n C dX5_append_51 rfl ?_
      refine s_iald (r := (σ.1 10 m.toNatClampNeg)) C y10 (by omega) rfl dX5_append_52 ?_
      refine s_aload_n C dX5_append_53 rfl ?_
      refine s_getr (k := 12) (j := 11) C y1 fw_X5_49 rfl dX5_append_54 ?_
      refine s_iload_n C dX5_append_57 rfl ?_
      refine s_iald (r := (σ.1 11 m.toNatClampNeg)) C y11 (by omega) rfl dX5_append_58 ?_
      refine s_callVI (st := [.int z38]) C (c_X5_clockOf l ad σ ((σ.1 10 m.toNatClampNeg)) ((σ.1 11 m.toNatClampNeg)) (by omega) (by omega)) cv_X5_78 y1 rfl rfl rfl ⟨by decide, by decide⟩ (Nat.le_of_ble_eq_true rfl) dX5_append_59 ?_
      intro r51 τ52 h53
      obtain ⟨eh53, h53⟩ := h53; replace eh53 := eh53.symm; subst eh53
      refine s_callSI (st := []) C (c_X4_greater l ad σ z38 r51 ) cv_X5_81 rfl rfl ⟨by decide, by decide⟩ (Nat.le_of_ble_eq_true rfl) dX5_append_62 ?_
      intro r54 τ55 h56
      obtain ⟨eh56, h56⟩ := h56; replace eh56 := eh56.symm; subst eh56
      refine s_istore C dX5_append_65 (by decide) (Nat.le_of_ble_eq_true rfl) rfl ?_
      show WP E ad 67 [some (.ref (ad 1)), some (.int p), some (.int w), some (.int m), some (.int v), some (.int z2), some (.int r3), some (.int r54)] [] σ
      refine s_aload_n C dX5_append_67 rfl ?_
      refine s_getr (k := 10) (j := 9) C y1 fw_X5_43 rfl dX5_append_68 ?_
      refine s_iload C dX5_append_71 rfl ?_
      refine s_iload C dX5_append_73 rfl ?_
      refine s_aload_n C dX5_append_75 rfl ?_
      refine s_iload_n C dX5_append_76 rfl ?_
      refine s_callVI (st := [.int r54, .int r3, .ref (ad 9)]) C (c_X5_placeOf l ad σ p (by omega) (by omega)) cv_X5_86 y1 rfl rfl rfl ⟨by decide, by decide⟩ (Nat.le_of_ble_eq_true rfl) dX5_append_77 ?_
      intro r57 τ58 h59
      obtain ⟨eh59, h59⟩ := h59; replace eh59 := eh59.symm; subst eh59
      refine s_callSI (st := [.int r54, .int r3, .ref (ad 9)]) C (c_X4_one l ad σ r57 ) cv_X5_90 rfl rfl ⟨by decide, by decide⟩ (Nat.le_of_ble_eq_true rfl) dX5_append_80 ?_
      intro r60 τ61 h62
      obtain ⟨eh62, h62⟩ := h62; replace eh62 := eh62.symm; subst eh62
      refine s_iaddU C dX5_append_83 (fun z63 tz63 => ?_)
      refine s_iast C y9 (by omega) dX5_append_84 ?_
      refine s_aload_n C dX5_append_85 rfl ?_
      refine s_getr (k := 6) (j := 5) C y1 fw_X5_31 rfl dX5_append_86 ?_
      refine s_iload C dX5_append_89 rfl ?_
      refine s_iload_n C dX5_append_91 rfl ?_
      refine s_iast C y5 (by omega) dX5_append_92 ?_
      refine s_aload_n C dX5_append_93 rfl ?_
      refine s_getr (k := 7) (j := 6) C y1 fw_X5_34 rfl dX5_append_94 ?_
      refine s_iload C dX5_append_97 rfl ?_
      refine s_iload C dX5_append_99 rfl ?_
      refine s_iast C y6 (by omega) dX5_append_101 ?_
      refine s_aload_n C dX5_append_102 rfl ?_
      refine s_getr (k := 8) (j := 7) C y1 fw_X5_37 rfl dX5_append_103 ?_
      refine s_iload C dX5_append_106 rfl ?_
      refine s_iload_n C dX5_append_108 rfl ?_
      refine s_iast C y7 (by omega) dX5_append_109 ?_
      refine s_aload_n C dX5_append_110 rfl ?_
      refine s_getr (k := 9) (j := 8) C y1 fw_X5_40 rfl dX5_append_111 ?_
      refine s_iload C dX5_append_114 rfl ?_
      refine s_iconst C dX5_append_116 (by decide) (fun z64 tz64 => ?_)
      refine s_iast C y8 (by omega) dX5_append_117 ?_
      refine s_aload_n C dX5_append_118 rfl ?_
      refine s_getr (k := 5) (j := 4) C y1 fw_X5_28 rfl dX5_append_119 ?_
      refine s_aload_n C dX5_append_122 rfl ?_
      refine s_get (k := 1) (x := (σ.1 1 1)) C y1 fw_X5_15 rfl rfl dX5_append_123 ?_
      refine s_iload_n C dX5_append_126 rfl ?_
      refine s_iast C y4 (by omega) dX5_append_127 ?_
      refine s_aload_n C dX5_append_128 rfl ?_
      refine s_dup C dX5_append_129 rfl ?_
      refine s_get (k := 1) (x := (σ.1 1 1)) C y1 fw_X5_15 rfl rfl dX5_append_130 ?_
      refine s_iconst C dX5_append_133 (by decide) (fun z65 tz65 => ?_)
      refine s_iadd C dX5_append_134 (by omega) (fun z66 tz66 => ?_)
      refine s_put (k := 1) C y1 fw_X5_15 fp_4_1 rfl dX5_append_135 ?_
      refine s_aload_n C dX5_append_138 rfl ?_
      refine s_getr (k := 4) (j := 3) C y1 fw_X5_25 rfl dX5_append_139 ?_
      refine s_iload_n C dX5_append_142 rfl ?_
      refine s_iload C dX5_append_143 rfl ?_
      refine s_iast C y3 (by omega) dX5_append_145 ?_
      exact s_vret C X dX5_append_146 ⟨(Fr.sV (Fr.sV (Fr.sV (Fr.sV (Fr.sV (Fr.sV (Fr.sV (Fr.sV Fr.rf (Or.inl (by decide))) (Or.inl (by decide))) (Or.inl (by decide))) (Or.inl (by decide))) (Or.inl (by decide))) (Or.inl (by decide))) (Or.inr (by decide))) (Or.inl (by decide))), z2, by omega, rfl, rfl, (by show upd (σ.1 5) r3.toNatClampNeg w = _; rw [hE]), (by show upd (σ.1 7) r3.toNatClampNeg m = _; rw [hE]), (by show Int32.toInt z66 = _; omega)⟩
set_option maxRecDepth 100000 in
theorem c_X5_removeLast (l : Launch) (ad : Nat → Nat) (σ : Sg) (hX : IX σ.1) (h1 : 1 ≤ (σ.1 1 1).toInt) : Mt l yX5_removeLast cX5_removeLast 3 none 1 ad σ [.ref (ad 1)] (oV (fun τ => IX τ.1 ∧ Fr [3, 12, 13] [(1, 1), (1, 2)] σ τ ∧ True)) := by
  have hpr := hX.pr
  have htot := hX.tot
  have hms := hX.ms
  refine Mt_intro (by decide +kernel) (by simp [lg_sl, Value.category]) (fun E C X => ?_)
  show WP E ad 0 [some (.ref (ad 1)), none, none] [] σ
  refine s_aload_n C dX5_removeLast_0 rfl ?_
  refine s_dup C dX5_removeLast_1 rfl ?_
  refine s_get (k := 1) (x := (σ.1 1 1)) C y1 fw_X5_15 rfl rfl dX5_removeLast_2 ?_
  refine s_iconst C dX5_removeLast_5 (by decide) (fun z1 tz1 => ?_)
  refine s_isub C dX5_removeLast_6 (by omega) (fun z2 tz2 => ?_)
  refine s_put (k := 1) C y1 fw_X5_15 fp_4_1 rfl dX5_removeLast_7 ?_
  have hT : (σ.1 1 1).toInt.toNat = z2.toNatClampNeg + 1 := by unfold Int32.toNatClampNeg; omega
  obtain ⟨l1, l2, l3⟩ := rc_last hX.RU hT
  replace l1 : 1 ≤ (σ.1 3 (σ.1 4 z2.toNatClampNeg).toNatClampNeg).toInt := l1
  refine s_aload_n C dX5_removeLast_10 rfl ?_
  refine s_getr (k := 5) (j := 4) C y1 fw_X5_28 rfl dX5_removeLast_11 ?_
  refine s_aload_n C dX5_removeLast_14 rfl ?_
  refine s_get (k := 1) (x := z2) C y1 fw_X5_15 rfl rfl dX5_removeLast_15 ?_
  refine s_iald (r := (σ.1 4 z2.toNatClampNeg)) C y4 (by omega) rfl dX5_removeLast_18 ?_
  have b3 := hX.ord z2.toNatClampNeg
  refine s_istore_n C dX5_removeLast_19 (by decide) (Nat.le_of_ble_eq_true rfl) rfl ?_
  show WP E ad 20 [some (.ref (ad 1)), some (.int (σ.1 4 z2.toNatClampNeg)), none] [] (sV σ 1 1 z2)
  have hpo := hX.ord z2.toNatClampNeg
  have hpe := hX.ev (σ.1 4 z2.toNatClampNeg).toNatClampNeg
  refine s_iload_n C dX5_removeLast_20 rfl ?_
  refine s_aload_n C dX5_removeLast_21 rfl ?_
  refine s_getr (k := 4) (j := 3) C y1 fw_X5_25 rfl dX5_removeLast_22 ?_
  refine s_iload_n C dX5_removeLast_25 rfl ?_
  refine s_iald (r := (σ.1 3 ((σ.1 4 z2.toNatClampNeg).toNatClampNeg))) C y3 (by omega) rfl dX5_removeLast_26 ?_
  have b4 := hX.ev (σ.1 4 z2.toNatClampNeg).toNatClampNeg
  refine s_callSI (st := []) C (c_X5_spotOf l ad (sV σ 1 1 z2) ((σ.1 4 z2.toNatClampNeg)) ((σ.1 3 ((σ.1 4 z2.toNatClampNeg).toNatClampNeg))) (by omega) (by omega)) cv_X5_74 rfl rfl ⟨by decide, by decide⟩ (Nat.le_of_ble_eq_true rfl) dX5_removeLast_27 ?_
  intro r5 τ6 h7
  obtain ⟨eh7, h7⟩ := h7; replace eh7 := eh7.symm; subst eh7
  refine s_istore_n C dX5_removeLast_30 (by decide) (Nat.le_of_ble_eq_true rfl) rfl ?_
  show WP E ad 31 [some (.ref (ad 1)), some (.int (σ.1 4 z2.toNatClampNeg)), some (.int r5)] [] (sV σ 1 1 z2)
  have hsp : r5.toNatClampNeg = sp (σ.1 4) z2.toNatClampNeg := by rw [l2]; unfold Int32.toNatClampNeg at *; omega
  refine s_aload_n C dX5_removeLast_31 rfl ?_
  refine s_getr (k := 6) (j := 5) C y1 fw_X5_31 rfl dX5_removeLast_32 ?_
  refine s_iload_n C dX5_removeLast_35 rfl ?_
  refine s_iald (r := (σ.1 5 r5.toNatClampNeg)) C y5 (by omega) rfl dX5_removeLast_36 ?_
  refine s_iconst C dX5_removeLast_37 (by decide) (fun z8 tz8 => ?_)
  refine s_icmp_ne (tgt := 51) C dX5_removeLast_38 (by decide) (fun q9 => ?_) (fun q9 => ?_)
  · refine s_aload_n C dX5_removeLast_51 rfl ?_
    refine s_getr (k := 6) (j := 5) C y1 fw_X5_31 rfl dX5_removeLast_52 ?_
    refine s_iload_n C dX5_removeLast_55 rfl ?_
    refine s_iald (r := (σ.1 5 r5.toNatClampNeg)) C y5 (by omega) rfl dX5_removeLast_56 ?_
    refine s_iconst C dX5_removeLast_57 (by decide) (fun z10 tz10 => ?_)
    refine s_icmp_ne (tgt := 87) C dX5_removeLast_58 (by decide) (fun q11 => ?_) (fun q11 => ?_)
    · refine s_aload_n C dX5_removeLast_87 rfl ?_
      refine s_getr (k := 4) (j := 3) C y1 fw_X5_25 rfl dX5_removeLast_88 ?_
      refine s_iload_n C dX5_removeLast_91 rfl ?_
      refine s_dup2 C dX5_removeLast_92 rfl rfl ?_
      refine s_iald (r := (σ.1 3 ((σ.1 4 z2.toNatClampNeg).toNatClampNeg))) C y3 (by omega) rfl dX5_removeLast_93 ?_
      have b12 := hX.ev (σ.1 4 z2.toNatClampNeg).toNatClampNeg
      refine s_iconst C dX5_removeLast_94 (by decide) (fun z13 tz13 => ?_)
      refine s_isub C dX5_removeLast_95 (by omega) (fun z14 tz14 => ?_)
      refine s_iast C y3 (by omega) dX5_removeLast_96 ?_
      exact s_vret C X dX5_removeLast_97 ⟨(IX.kRU (cs := [3, 12, 13]) (fs := [(1, 1), (1, 2)]) hX (Fr.sV (Fr.sV Fr.rf (Or.inr (by decide))) (Or.inl (by decide))) (rc_back hX.RU hT (by show Int32.toInt z2 = _; omega) (by show _ = (σ.1 3 (σ.1 4 z2.toNatClampNeg).toNatClampNeg).toInt - 1; omega) (by show Int32.toInt (σ.1 1 2) = _; rw [← hsp]; split <;> omega) hX.tk) (by decide) (by decide) (by decide)), (Fr.sV (Fr.sV Fr.rf (Or.inr (by decide))) (Or.inl (by decide))), trivial⟩
    · have h7 := hX.RU.2.2.2.2.2.2.1 r5.toNatClampNeg (by omega)
      refine s_aload_n C dX5_removeLast_61 rfl ?_
      refine s_getr (k := 13) (j := 12) C y1 fw_X5_52 rfl dX5_removeLast_62 ?_
      refine s_aload_n C dX5_removeLast_65 rfl ?_
      refine s_getr (k := 8) (j := 7) C y1 fw_X5_37 rfl dX5_removeLast_66 ?_
      refine s_iload_n C dX5_removeLast_69 rfl ?_
      refine s_iald (r := (σ.1 7 r5.toNatClampNeg)) C y7 (by omega) rfl dX5_removeLast_70 ?_
      refine s_bipush C dX5_removeLast_71 (by decide) (fun z15 tz15 => ?_)
      refine s_iast C y12 (by omega) dX5_removeLast_73 ?_
      refine s_aload_n C dX5_removeLast_74 rfl ?_
      refine s_getr (k := 14) (j := 13) C y1 fw_X5_55 rfl dX5_removeLast_75 ?_
      refine s_aload_n C dX5_removeLast_78 rfl ?_
      refine s_getr (k := 8) (j := 7) C y1 fw_X5_37 rfl dX5_removeLast_79 ?_
      refine s_iload_n C dX5_removeLast_82 rfl ?_
      refine s_iald (r := (σ.1 7 r5.toNatClampNeg)) C y7 (by omega) rfl dX5_removeLast_83 ?_
      refine s_bipush C dX5_removeLast_84 (by decide) (fun z16 tz16 => ?_)
      refine s_iast C y13 (by omega) dX5_removeLast_86 ?_
      refine s_aload_n C dX5_removeLast_87 rfl ?_
      refine s_getr (k := 4) (j := 3) C y1 fw_X5_25 rfl dX5_removeLast_88 ?_
      refine s_iload_n C dX5_removeLast_91 rfl ?_
      refine s_dup2 C dX5_removeLast_92 rfl rfl ?_
      refine s_iald (r := (σ.1 3 ((σ.1 4 z2.toNatClampNeg).toNatClampNeg))) C y3 (by omega) rfl dX5_removeLast_93 ?_
      have b17 := hX.ev (σ.1 4 z2.toNatClampNeg).toNatClampNeg
      refine s_iconst C dX5_removeLast_94 (by decide) (fun z18 tz18 => ?_)
      refine s_isub C dX5_removeLast_95 (by omega) (fun z19 tz19 => ?_)
      refine s_iast C y3 (by omega) dX5_removeLast_96 ?_
      exact s_vret C X dX5_removeLast_97 ⟨(IX.kRU (cs := [3, 12, 13]) (fs := [(1, 1), (1, 2)]) hX (Fr.sV (Fr.sV (Fr.sV (Fr.sV Fr.rf (Or.inr (by decide))) (Or.inl (by decide))) (Or.inl (by decide))) (Or.inl (by decide))) (rc_back hX.RU hT (by show Int32.toInt z2 = _; omega) (by show _ = (σ.1 3 (σ.1 4 z2.toNatClampNeg).toNatClampNeg).toInt - 1; omega) (by show Int32.toInt (σ.1 1 2) = _; rw [← hsp]; split <;> omega) (up_iv hX.tk _ (by omega))) (by decide) (by decide) (by decide)), (Fr.sV (Fr.sV (Fr.sV (Fr.sV Fr.rf (Or.inr (by decide))) (Or.inl (by decide))) (Or.inl (by decide))) (Or.inl (by decide))), trivial⟩
  · have l3x := l3 (by rw [← hsp]; omega)
    refine s_aload_n C dX5_removeLast_41 rfl ?_
    refine s_dup C dX5_removeLast_42 rfl ?_
    refine s_get (k := 2) (x := (σ.1 1 2)) C y1 fw_X5_18 rfl rfl dX5_removeLast_43 ?_
    refine s_iconst C dX5_removeLast_46 (by decide) (fun z20 tz20 => ?_)
    refine s_isub C dX5_removeLast_47 (by omega) (fun z21 tz21 => ?_)
    refine s_put (k := 2) C y1 fw_X5_18 fp_4_2 rfl dX5_removeLast_48 ?_
    refine s_aload_n C dX5_removeLast_51 rfl ?_
    refine s_getr (k := 6) (j := 5) C y1 fw_X5_31 rfl dX5_removeLast_52 ?_
    refine s_iload_n C dX5_removeLast_55 rfl ?_
    refine s_iald (r := (σ.1 5 r5.toNatClampNeg)) C y5 (by omega) rfl dX5_removeLast_56 ?_
    refine s_iconst C dX5_removeLast_57 (by decide) (fun z22 tz22 => ?_)
    refine s_icmp_ne (tgt := 87) C dX5_removeLast_58 (by decide) (fun q23 => ?_) (fun q23 => ?_)
    · refine s_aload_n C dX5_removeLast_87 rfl ?_
      refine s_getr (k := 4) (j := 3) C y1 fw_X5_25 rfl dX5_removeLast_88 ?_
      refine s_iload_n C dX5_removeLast_91 rfl ?_
      refine s_dup2 C dX5_removeLast_92 rfl rfl ?_
      refine s_iald (r := (σ.1 3 ((σ.1 4 z2.toNatClampNeg).toNatClampNeg))) C y3 (by omega) rfl dX5_removeLast_93 ?_
      have b24 := hX.ev (σ.1 4 z2.toNatClampNeg).toNatClampNeg
      refine s_iconst C dX5_removeLast_94 (by decide) (fun z25 tz25 => ?_)
      refine s_isub C dX5_removeLast_95 (by omega) (fun z26 tz26 => ?_)
      refine s_iast C y3 (by omega) dX5_removeLast_96 ?_
      exact s_vret C X dX5_removeLast_97 ⟨(IX.kRU (cs := [3, 12, 13]) (fs := [(1, 1), (1, 2)]) hX (Fr.sV (Fr.sV (Fr.sV Fr.rf (Or.inr (by decide))) (Or.inr (by decide))) (Or.inl (by decide))) (rc_back hX.RU hT (by show Int32.toInt z2 = _; omega) (by show _ = (σ.1 3 (σ.1 4 z2.toNatClampNeg).toNatClampNeg).toInt - 1; omega) (by show Int32.toInt z21 = _; rw [← hsp]; split <;> omega) hX.tk) (by decide) (by decide) (by decide)), (Fr.sV (Fr.sV (Fr.sV Fr.rf (Or.inr (by decide))) (Or.inr (by decide))) (Or.inl (by decide))), trivial⟩
    · have h7 := hX.RU.2.2.2.2.2.2.1 r5.toNatClampNeg (by omega)
      refine s_aload_n C dX5_removeLast_61 rfl ?_
      refine s_getr (k := 13) (j := 12) C y1 fw_X5_52 rfl dX5_removeLast_62 ?_
      refine s_aload_n C dX5_removeLast_65 rfl ?_
      refine s_getr (k := 8) (j := 7) C y1 fw_X5_37 rfl dX5_removeLast_66 ?_
      refine s_iload_n C dX5_removeLast_69 rfl ?_
      refine s_iald (r := (σ.1 7 r5.toNatClampNeg)) C y7 (by omega) rfl dX5_removeLast_70 ?_
      refine s_bipush C dX5_removeLast_71 (by decide) (fun z27 tz27 => ?_)
      refine s_iast C y12 (by omega) dX5_removeLast_73 ?_
      refine s_aload_n C dX5_removeLast_74 rfl ?_
      refine s_getr (k := 14) (j := 13) C y1 fw_X5_55 rfl dX5_removeLast_75 ?_
      refine s_aload_n C dX5_removeLast_78 rfl ?_
      refine s_getr (k := 8) (j := 7) C y1 fw_X5_37 rfl dX5_removeLast_79 ?_
      refine s_iload_n C dX5_removeLast_82 rfl ?_
      refine s_iald (r := (σ.1 7 r5.toNatClampNeg)) C y7 (by omega) rfl dX5_removeLast_83 ?_
      refine s_bipush C dX5_removeLast_84 (by decide) (fun z28 tz28 => ?_)
      refine s_iast C y13 (by omega) dX5_removeLast_86 ?_
      refine s_aload_n C dX5_removeLast_87 rfl ?_
      refine s_getr (k := 4) (j := 3) C y1 fw_X5_25 rfl dX5_removeLast_88 ?_
      refine s_iload_n C dX5_removeLast_91 rfl ?_
      refine s_dup2 C dX5_removeLast_92 rfl rfl ?_
      refine s_iald (r := (σ.1 3 ((σ.1 4 z2.toNatClampNeg).toNatClampNeg))) C y3 (by omega) rfl dX5_removeLast_93 ?_
      have b29 := hX.ev (σ.1 4 z2.toNatClampNeg).toNatClampNeg
      refine s_iconst C dX5_removeLast_94 (by decide) (fun z30 tz30 => ?_)
      refine s_isub C dX5_removeLast_95 (by omega) (fun z31 tz31 => ?_)
      refine s_iast C y3 (by omega) dX5_removeLast_96 ?_
      exact s_vret C X dX5_removeLast_97 ⟨(IX.kRU (cs := [3, 12, 13]) (fs := [(1, 1), (1, 2)]) hX (Fr.sV (Fr.sV (Fr.sV (Fr.sV (Fr.sV Fr.rf (Or.inr (by decide))) (Or.inr (by decide))) (Or.inl (by decide))) (Or.inl (by decide))) (Or.inl (by decide))) (rc_back hX.RU hT (by show Int32.toInt z2 = _; omega) (by show _ = (σ.1 3 (σ.1 4 z2.toNatClampNeg).toNatClampNeg).toInt - 1; omega) (by show Int32.toInt z21 = _; rw [← hsp]; split <;> omega) (up_iv hX.tk _ (by omega))) (by decide) (by decide) (by decide)), (Fr.sV (Fr.sV (Fr.sV (Fr.sV (Fr.sV Fr.rf (Or.inr (by decide))) (Or.inr (by decide))) (Or.inl (by decide))) (Or.inl (by decide))) (Or.inl (by decide))), trivial⟩
set_option maxRecDepth 100000 in
theorem c_X8_append (l : Launch) (ad : Nat → Nat) (σ : Sg) (c : Int32) (hX : IX σ.1) (hl : (σ.1 66 0).toInt < 60) : Mt l yX8_append cX8_append 2 none 0 ad σ [.ref (ad 66), .int c] (oV (fun τ => IX τ.1 ∧ Fr [67] [(66, 0)] σ τ ∧ (τ.1 66 0).toInt = (σ.1 66 0).toInt + 1)) := by
  have htl := hX.tl
  have htp := hX.tp
  refine Mt_intro (by decide +kernel) (by simp [lg_sl, Value.category]) (fun E C X => ?_)
  show WP E ad 0 [some (.ref (ad 66)), some (.int c)] [] σ
  refine s_aload_n C dX8_append_0 rfl ?_
  refine s_getr (k := 2) (j := 67) C y66 fw_X8_18 rfl dX8_append_1 ?_
  refine s_aload_n C dX8_append_4 rfl ?_
  refine s_get (k := 0) (x := (σ.1 66 0)) C y66 fw_X8_9 rfl rfl dX8_append_5 ?_
  refine s_iload_n C dX8_append_8 rfl ?_
  refine s_iast C y67 (by omega) dX8_append_9 ?_
  refine s_aload_n C dX8_append_10 rfl ?_
  refine s_dup C dX8_append_11 rfl ?_
  refine s_get (k := 0) (x := (σ.1 66 0)) C y66 fw_X8_9 rfl rfl dX8_append_12 ?_
  refine s_iconst C dX8_append_15 (by decide) (fun z1 tz1 => ?_)
  refine s_iadd C dX8_append_16 (by omega) (fun z2 tz2 => ?_)
  refine s_put (k := 0) C y66 fw_X8_9 fp_7_0 rfl dX8_append_17 ?_
  exact s_vret C X dX8_append_20 ⟨⟨hX.1, hX.2.1, hX.2.2.1, hX.2.2.2.1, hX.2.2.2.2.1, hX.2.2.2.2.2.1, hX.2.2.2.2.2.2.1, hX.2.2.2.2.2.2.2.1, hX.2.2.2.2.2.2.2.2.1, hX.2.2.2.2.2.2.2.2.2.1, hX.2.2.2.2.2.2.2.2.2.2.1, hX.2.2.2.2.2.2.2.2.2.2.2.1, ⟨(by show 0 ≤ Int32.toInt z2 ∧ Int32.toInt z2 ≤ 60; omega), (by show 0 ≤ Int32.toInt (σ.1 66 1) ∧ Int32.toInt (σ.1 66 1) ≤ 60; omega)⟩, hX.2.2.2.2.2.2.2.2.2.2.2.2.2⟩, (Fr.sV (Fr.sV Fr.rf (Or.inl (by decide))) (Or.inr (by decide))), (by show Int32.toInt z2 = _; omega)⟩
set_option maxRecDepth 100000 in
theorem c_X8_clear (l : Launch) (ad : Nat → Nat) (σ : Sg)  (hX : IX σ.1)  : Mt l yX8_clear cX8_clear 1 none 0 ad σ [.ref (ad 66)] (oV (fun τ => IX τ.1 ∧ Fr [] [(66, 0), (66, 1)] σ τ ∧ (τ.1 66 0).toInt = 0 ∧ (τ.1 66 1).toInt = 0)) := by
  have htl := hX.tl
  have htp := hX.tp
  refine Mt_intro (by decide +kernel) (by simp [lg_sl, Value.category]) (fun E C X => ?_)
  show WP E ad 0 [some (.ref (ad 66))] [] σ
  refine s_aload_n C dX8_clear_0 rfl ?_
  refine s_iconst C dX8_clear_1 (by decide) (fun z1 tz1 => ?_)
  refine s_put (k := 0) C y66 fw_X8_9 fp_7_0 rfl dX8_clear_2 ?_
  refine s_aload_n C dX8_clear_5 rfl ?_
  refine s_iconst C dX8_clear_6 (by decide) (fun z2 tz2 => ?_)
  refine s_put (k := 1) C y66 fw_X8_15 fp_7_1 rfl dX8_clear_7 ?_
  exact s_vret C X dX8_clear_10 ⟨⟨hX.1, hX.2.1, hX.2.2.1, hX.2.2.2.1, hX.2.2.2.2.1, hX.2.2.2.2.2.1, hX.2.2.2.2.2.2.1, hX.2.2.2.2.2.2.2.1, hX.2.2.2.2.2.2.2.2.1, hX.2.2.2.2.2.2.2.2.2.1, hX.2.2.2.2.2.2.2.2.2.2.1, hX.2.2.2.2.2.2.2.2.2.2.2.1, ⟨(by show 0 ≤ Int32.toInt z1 ∧ Int32.toInt z1 ≤ 60; omega), (by show 0 ≤ Int32.toInt z2 ∧ Int32.toInt z2 ≤ 60; omega)⟩, hX.2.2.2.2.2.2.2.2.2.2.2.2.2⟩, (Fr.sV (Fr.sV Fr.rf (Or.inr (by decide))) (Or.inr (by decide))), (by show Int32.toInt z1 = 0; omega), (by show Int32.toInt z2 = 0; omega)⟩
set_option maxRecDepth 100000 in
theorem c_X8_isAtEnd (l : Launch) (ad : Nat → Nat) (σ : Sg)   : Mt l yX8_isAtEnd cX8_isAtEnd 1 (some .boolean) 0 ad σ [.ref (ad 66)] (oI (fun r τ => τ = σ ∧ (r.toInt = 0 ∨ r.toInt = 1))) := by
  refine Mt_intro (by decide +kernel) (by simp [lg_sl, Value.category]) (fun E C X => ?_)
  show WP E ad 0 [some (.ref (ad 66))] [] σ
  refine s_aload_n C dX8_isAtEnd_0 rfl ?_
  refine s_get (k := 1) (x := (σ.1 66 1)) C y66 fw_X8_15 rfl rfl dX8_isAtEnd_1 ?_
  refine s_aload_n C dX8_isAtEnd_4 rfl ?_
  refine s_get (k := 0) (x := (σ.1 66 0)) C y66 fw_X8_9 rfl rfl dX8_isAtEnd_5 ?_
  refine s_icmp_lt (tgt := 15) C dX8_isAtEnd_8 (by decide) (fun q1 => ?_) (fun q1 => ?_)
  · refine s_iconst C dX8_isAtEnd_15 (by decide) (fun z2 tz2 => ?_)
    exact s_zret C (by omega) X dX8_isAtEnd_16 ⟨rfl, by omega⟩
  · refine s_iconst C dX8_isAtEnd_11 (by decide) (fun z3 tz3 => ?_)
    refine s_goto (tgt := 16) C dX8_isAtEnd_12 (by decide) ?_
    exact s_zret C (by omega) X dX8_isAtEnd_16 ⟨rfl, by omega⟩
set_option maxRecDepth 100000 in
theorem c_X8_peek (l : Launch) (ad : Nat → Nat) (σ : Sg)  (hX : IX σ.1) : Mt l yX8_peek cX8_peek 1 (some .int) 0 ad σ [.ref (ad 66)] (oI (fun r τ => τ = σ ∧ True)) := by
  have htl := hX.tl
  have htp := hX.tp
  refine Mt_intro (by decide +kernel) (by simp [lg_sl, Value.category]) (fun E C X => ?_)
  show WP E ad 0 [some (.ref (ad 66))] [] σ
  refine s_aload_n C dX8_peek_0 rfl ?_
  refine s_get (k := 1) (x := (σ.1 66 1)) C y66 fw_X8_15 rfl rfl dX8_peek_1 ?_
  refine s_aload_n C dX8_peek_4 rfl ?_
  refine s_get (k := 0) (x := (σ.1 66 0)) C y66 fw_X8_9 rfl rfl dX8_peek_5 ?_
  refine s_icmp_ge (tgt := 23) C dX8_peek_8 (by decide) (fun q1 => ?_) (fun q1 => ?_)
  · refine s_iconst C dX8_peek_23 (by decide) (fun z2 tz2 => ?_)
    exact s_iret C X dX8_peek_24 ⟨rfl, trivial⟩
  · refine s_aload_n C dX8_peek_11 rfl ?_
    refine s_getr (k := 2) (j := 67) C y66 fw_X8_18 rfl dX8_peek_12 ?_
    refine s_aload_n C dX8_peek_15 rfl ?_
    refine s_get (k := 1) (x := (σ.1 66 1)) C y66 fw_X8_15 rfl rfl dX8_peek_16 ?_
    refine s_iald (r := (σ.1 67 ((σ.1 66 1).toNatClampNeg))) C y67 (by omega) rfl dX8_peek_19 ?_
    refine s_goto (tgt := 24) C dX8_peek_20 (by decide) ?_
    exact s_iret C X dX8_peek_24 ⟨rfl, trivial⟩
set_option maxRecDepth 100000 in
theorem c_X8_accept (l : Launch) (ad : Nat → Nat) (σ : Sg) (c : Int32) (hX : IX σ.1)  : Mt l yX8_accept cX8_accept 2 (some .boolean) 0 ad σ [.ref (ad 66), .int c] (oI (fun r τ => IX τ.1 ∧ Fr [] [(66, 1)] σ τ ∧ (r.toInt = 0 ∨ r.toInt = 1))) := by
  have htl := hX.tl
  have htp := hX.tp
  refine Mt_intro (by decide +kernel) (by simp [lg_sl, Value.category]) (fun E C X => ?_)
  show WP E ad 0 [some (.ref (ad 66)), some (.int c)] [] σ
  refine s_aload_n C dX8_accept_0 rfl ?_
  refine s_get (k := 1) (x := (σ.1 66 1)) C y66 fw_X8_15 rfl rfl dX8_accept_1 ?_
  refine s_aload_n C dX8_accept_4 rfl ?_
  refine s_get (k := 0) (x := (σ.1 66 0)) C y66 fw_X8_9 rfl rfl dX8_accept_5 ?_
  refine s_icmp_ge (tgt := 24) C dX8_accept_8 (by decide) (fun q1 => ?_) (fun q1 => ?_)
  · refine s_iconst C dX8_accept_24 (by decide) (fun z2 tz2 => ?_)
    exact s_zret C (by omega) X dX8_accept_25 ⟨hX, Fr.rf, by omega⟩
  · refine s_aload_n C dX8_accept_11 rfl ?_
    refine s_getr (k := 2) (j := 67) C y66 fw_X8_18 rfl dX8_accept_12 ?_
    refine s_aload_n C dX8_accept_15 rfl ?_
    refine s_get (k := 1) (x := (σ.1 66 1)) C y66 fw_X8_15 rfl rfl dX8_accept_16 ?_
    refine s_iald (r := (σ.1 67 ((σ.1 66 1).toNatClampNeg))) C y67 (by omega) rfl dX8_accept_19 ?_
    refine s_iload_n C dX8_accept_20 rfl ?_
    refine s_icmp_eq (tgt := 26) C dX8_accept_21 (by decide) (fun q3 => ?_) (fun q3 => ?_)
    · refine s_aload_n C dX8_accept_26 rfl ?_
      refine s_dup C dX8_accept_27 rfl ?_
      refine s_get (k := 1) (x := (σ.1 66 1)) C y66 fw_X8_15 rfl rfl dX8_accept_28 ?_
      refine s_iconst C dX8_accept_31 (by decide) (fun z4 tz4 => ?_)
      refine s_iadd C dX8_accept_32 (by omega) (fun z5 tz5 => ?_)
      refine s_put (k := 1) C y66 fw_X8_15 fp_7_1 rfl dX8_accept_33 ?_
      refine s_iconst C dX8_accept_36 (by decide) (fun z6 tz6 => ?_)
      exact s_zret C (by omega) X dX8_accept_37 ⟨⟨hX.1, hX.2.1, hX.2.2.1, hX.2.2.2.1, hX.2.2.2.2.1, hX.2.2.2.2.2.1, hX.2.2.2.2.2.2.1, hX.2.2.2.2.2.2.2.1, hX.2.2.2.2.2.2.2.2.1, hX.2.2.2.2.2.2.2.2.2.1, hX.2.2.2.2.2.2.2.2.2.2.1, hX.2.2.2.2.2.2.2.2.2.2.2.1, ⟨(by show 0 ≤ Int32.toInt (σ.1 66 0) ∧ Int32.toInt (σ.1 66 0) ≤ 60; omega), (by show 0 ≤ Int32.toInt z5 ∧ Int32.toInt z5 ≤ 60; omega)⟩, hX.2.2.2.2.2.2.2.2.2.2.2.2.2⟩, (Fr.sV Fr.rf (Or.inr (by decide))), by omega⟩
    · refine s_iconst C dX8_accept_24 (by decide) (fun z7 tz7 => ?_)
      exact s_zret C (by omega) X dX8_accept_25 ⟨hX, Fr.rf, by omega⟩
set_option maxRecDepth 100000 in
theorem c_X8_figureBelow (l : Launch) (ad : Nat → Nat) (σ : Sg) (b : Int32) (hX : IX σ.1)  : Mt l yX8_figureBelow cX8_figureBelow 3 (some .int) 0 ad σ [.ref (ad 66), .int b] (oI (fun r τ => IX τ.1 ∧ Fr [] [(66, 1)] σ τ ∧ -1 ≤ r.toInt ∧ r.toInt ≤ 9 ∧ (0 ≤ r.toInt → r.toInt < b.toInt))) := by
  have htl := hX.tl
  have htp := hX.tp
  refine Mt_intro (by decide +kernel) (by simp [lg_sl, Value.category]) (fun E C X => ?_)
  show WP E ad 0 [some (.ref (ad 66)), some (.int b), none] [] σ
  refine s_aload_n C dX8_figureBelow_0 rfl ?_
  refine s_get (k := 1) (x := (σ.1 66 1)) C y66 fw_X8_15 rfl rfl dX8_figureBelow_1 ?_
  refine s_aload_n C dX8_figureBelow_4 rfl ?_
  refine s_get (k := 0) (x := (σ.1 66 0)) C y66 fw_X8_9 rfl rfl dX8_figureBelow_5 ?_
  refine s_icmp_ge (tgt := 26) C dX8_figureBelow_8 (by decide) (fun q1 => ?_) (fun q1 => ?_)
  · refine s_iconst C dX8_figureBelow_26 (by decide) (fun z2 tz2 => ?_)
    refine s_istore_n C dX8_figureBelow_27 (by decide) (Nat.le_of_ble_eq_true rfl) rfl ?_
    show WP E ad 28 [some (.ref (ad 66)), some (.int b), some (.int z2)] [] σ
    refine s_iload_n C dX8_figureBelow_28 rfl ?_
    refine s_if_lt (tgt := 43) C dX8_figureBelow_29 (by decide) (fun q3 => ?_) (fun q3 => ?_)
    · refine s_iconst C dX8_figureBelow_43 (by decide) (fun z4 tz4 => ?_)
      exact s_iret C X dX8_figureBelow_44 ⟨hX, Fr.rf, by omega⟩
    · refine s_iload_n C dX8_figureBelow_32 rfl ?_
      refine s_bipush C dX8_figureBelow_33 (by decide) (fun z5 tz5 => ?_)
      refine s_icmp_gt (tgt := 43) C dX8_figureBelow_35 (by decide) (fun q6 => ?_) (fun q6 => ?_)
      · refine s_iconst C dX8_figureBelow_43 (by decide) (fun z7 tz7 => ?_)
        exact s_iret C X dX8_figureBelow_44 ⟨hX, Fr.rf, by omega⟩
      · refine s_iload_n C dX8_figureBelow_38 rfl ?_
        refine s_iload_n C dX8_figureBelow_39 rfl ?_
        refine s_icmp_lt (tgt := 45) C dX8_figureBelow_40 (by decide) (fun q8 => ?_) (fun q8 => ?_)
        · refine s_aload_n C dX8_figureBelow_45 rfl ?_
          refine s_dup C dX8_figureBelow_46 rfl ?_
          refine s_get (k := 1) (x := (σ.1 66 1)) C y66 fw_X8_15 rfl rfl dX8_figureBelow_47 ?_
          refine s_iconst C dX8_figureBelow_50 (by decide) (fun z9 tz9 => ?_)
          refine s_iadd C dX8_figureBelow_51 (by omega) (fun z10 tz10 => ?_)
          refine s_put (k := 1) C y66 fw_X8_15 fp_7_1 rfl dX8_figureBelow_52 ?_
          refine s_iload_n C dX8_figureBelow_55 rfl ?_
          exact s_iret C X dX8_figureBelow_56 ⟨⟨hX.1, hX.2.1, hX.2.2.1, hX.2.2.2.1, hX.2.2.2.2.1, hX.2.2.2.2.2.1, hX.2.2.2.2.2.2.1, hX.2.2.2.2.2.2.2.1, hX.2.2.2.2.2.2.2.2.1, hX.2.2.2.2.2.2.2.2.2.1, hX.2.2.2.2.2.2.2.2.2.2.1, hX.2.2.2.2.2.2.2.2.2.2.2.1, ⟨(by show 0 ≤ Int32.toInt (σ.1 66 0) ∧ Int32.toInt (σ.1 66 0) ≤ 60; omega), (by show 0 ≤ Int32.toInt z10 ∧ Int32.toInt z10 ≤ 60; omega)⟩, hX.2.2.2.2.2.2.2.2.2.2.2.2.2⟩, (Fr.sV Fr.rf (Or.inr (by decide))), by omega⟩
        · refine s_iconst C dX8_figureBelow_43 (by decide) (fun z11 tz11 => ?_)
          exact s_iret C X dX8_figureBelow_44 ⟨hX, Fr.rf, by omega⟩
  · refine s_aload_n C dX8_figureBelow_11 rfl ?_
    refine s_getr (k := 2) (j := 67) C y66 fw_X8_18 rfl dX8_figureBelow_12 ?_
    refine s_aload_n C dX8_figureBelow_15 rfl ?_
    refine s_get (k := 1) (x := (σ.1 66 1)) C y66 fw_X8_15 rfl rfl dX8_figureBelow_16 ?_
    refine s_iald (r := (σ.1 67 ((σ.1 66 1).toNatClampNeg))) C y67 (by omega) rfl dX8_figureBelow_19 ?_
    refine s_bipush C dX8_figureBelow_20 (by decide) (fun z12 tz12 => ?_)
    refine s_isubU C dX8_figureBelow_22 (fun z13 tz13 => ?_)
    refine s_goto (tgt := 27) C dX8_figureBelow_23 (by decide) ?_
    refine s_istore_n C dX8_figureBelow_27 (by decide) (Nat.le_of_ble_eq_true rfl) rfl ?_
    show WP E ad 28 [some (.ref (ad 66)), some (.int b), some (.int z13)] [] σ
    refine s_iload_n C dX8_figureBelow_28 rfl ?_
    refine s_if_lt (tgt := 43) C dX8_figureBelow_29 (by decide) (fun q14 => ?_) (fun q14 => ?_)
    · refine s_iconst C dX8_figureBelow_43 (by decide) (fun z15 tz15 => ?_)
      exact s_iret C X dX8_figureBelow_44 ⟨hX, Fr.rf, by omega⟩
    · refine s_iload_n C dX8_figureBelow_32 rfl ?_
      refine s_bipush C dX8_figureBelow_33 (by decide) (fun z16 tz16 => ?_)
      refine s_icmp_gt (tgt := 43) C dX8_figureBelow_35 (by decide) (fun q17 => ?_) (fun q17 => ?_)
      · refine s_iconst C dX8_figureBelow_43 (by decide) (fun z18 tz18 => ?_)
        exact s_iret C X dX8_figureBelow_44 ⟨hX, Fr.rf, by omega⟩
      · refine s_iload_n C dX8_figureBelow_38 rfl ?_
        refine s_iload_n C dX8_figureBelow_39 rfl ?_
        refine s_icmp_lt (tgt := 45) C dX8_figureBelow_40 (by decide) (fun q19 => ?_) (fun q19 => ?_)
        · refine s_aload_n C dX8_figureBelow_45 rfl ?_
          refine s_dup C dX8_figureBelow_46 rfl ?_
          refine s_get (k := 1) (x := (σ.1 66 1)) C y66 fw_X8_15 rfl rfl dX8_figureBelow_47 ?_
          refine s_iconst C dX8_figureBelow_50 (by decide) (fun z20 tz20 => ?_)
          refine s_iadd C dX8_figureBelow_51 (by omega) (fun z21 tz21 => ?_)
          refine s_put (k := 1) C y66 fw_X8_15 fp_7_1 rfl dX8_figureBelow_52 ?_
          refine s_iload_n C dX8_figureBelow_55 rfl ?_
          exact s_iret C X dX8_figureBelow_56 ⟨⟨hX.1, hX.2.1, hX.2.2.1, hX.2.2.2.1, hX.2.2.2.2.1, hX.2.2.2.2.2.1, hX.2.2.2.2.2.2.1, hX.2.2.2.2.2.2.2.1, hX.2.2.2.2.2.2.2.2.1, hX.2.2.2.2.2.2.2.2.2.1, hX.2.2.2.2.2.2.2.2.2.2.1, hX.2.2.2.2.2.2.2.2.2.2.2.1, ⟨(by show 0 ≤ Int32.toInt (σ.1 66 0) ∧ Int32.toInt (σ.1 66 0) ≤ 60; omega), (by show 0 ≤ Int32.toInt z21 ∧ Int32.toInt z21 ≤ 60; omega)⟩, hX.2.2.2.2.2.2.2.2.2.2.2.2.2⟩, (Fr.sV Fr.rf (Or.inr (by decide))), by omega⟩
        · refine s_iconst C dX8_figureBelow_43 (by decide) (fun z22 tz22 => ?_)
          exact s_iret C X dX8_figureBelow_44 ⟨hX, Fr.rf, by omega⟩
set_option maxRecDepth 100000 in
theorem c_X8_number (l : Launch) (ad : Nat → Nat) (σ : Sg)  (hX : IX σ.1)  : Mt l yX8_number cX8_number 4 (some .int) 0 ad σ [.ref (ad 66)] (oI (fun r τ => IX τ.1 ∧ Fr [] [(66, 1)] σ τ ∧ -1 ≤ r.toInt ∧ r.toInt ≤ 99)) := by
  have htl := hX.tl
  have htp := hX.tp
  refine Mt_intro (by decide +kernel) (by simp [lg_sl, Value.category]) (fun E C X => ?_)
  show WP E ad 0 [some (.ref (ad 66)), none, none, none] [] σ
  refine s_iconst C dX8_number_0 (by decide) (fun z1 tz1 => ?_)
  refine s_istore_n C dX8_number_1 (by decide) (Nat.le_of_ble_eq_true rfl) rfl ?_
  show WP E ad 2 [some (.ref (ad 66)), some (.int z1), none, none] [] σ
  refine s_iconst C dX8_number_2 (by decide) (fun z2 tz2 => ?_)
  refine s_istore_n C dX8_number_3 (by decide) (Nat.le_of_ble_eq_true rfl) rfl ?_
  show WP E ad 4 [some (.ref (ad 66)), some (.int z1), some (.int z2), none] [] σ
  refine s_iload_n C dX8_number_4 rfl ?_
  refine s_iconst C dX8_number_5 (by decide) (fun z3 tz3 => ?_)
  refine s_icmp_ge (tgt := 76) C dX8_number_6 (by decide) (fun q4 => ?_) (fun q4 => ?_)
  · omega
  · refine s_aload_n C dX8_number_9 rfl ?_
    refine s_get (k := 1) (x := (σ.1 66 1)) C y66 fw_X8_15 rfl rfl dX8_number_10 ?_
    refine s_aload_n C dX8_number_13 rfl ?_
    refine s_get (k := 0) (x := (σ.1 66 0)) C y66 fw_X8_9 rfl rfl dX8_number_14 ?_
    refine s_icmp_ge (tgt := 76) C dX8_number_17 (by decide) (fun q5 => ?_) (fun q5 => ?_)
    · refine s_iload_n C dX8_number_76 rfl ?_
      exact s_iret C X dX8_number_77 ⟨hX, Fr.rf, by omega⟩
    · refine s_aload_n C dX8_number_20 rfl ?_
      refine s_getr (k := 2) (j := 67) C y66 fw_X8_18 rfl dX8_number_21 ?_
      refine s_aload_n C dX8_number_24 rfl ?_
      refine s_get (k := 1) (x := (σ.1 66 1)) C y66 fw_X8_15 rfl rfl dX8_number_25 ?_
      refine s_iald (r := (σ.1 67 ((σ.1 66 1).toNatClampNeg))) C y67 (by omega) rfl dX8_number_28 ?_
      refine s_bipush C dX8_number_29 (by decide) (fun z6 tz6 => ?_)
      refine s_isubU C dX8_number_31 (fun z7 tz7 => ?_)
      refine s_istore_n C dX8_number_32 (by decide) (Nat.le_of_ble_eq_true rfl) rfl ?_
      show WP E ad 33 [some (.ref (ad 66)), some (.int z1), some (.int z2), some (.int z7)] [] σ
      refine s_iload_n C dX8_number_33 rfl ?_
      refine s_if_lt (tgt := 43) C dX8_number_34 (by decide) (fun q8 => ?_) (fun q8 => ?_)
      · refine s_iload_n C dX8_number_43 rfl ?_
        exact s_iret C X dX8_number_44 ⟨hX, Fr.rf, by omega⟩
      · refine s_iload_n C dX8_number_37 rfl ?_
        refine s_bipush C dX8_number_38 (by decide) (fun z9 tz9 => ?_)
        refine s_icmp_le (tgt := 45) C dX8_number_40 (by decide) (fun q10 => ?_) (fun q10 => ?_)
        · refine s_iload_n C dX8_number_45 rfl ?_
          refine s_if_ne (tgt := 53) C dX8_number_46 (by decide) (fun q11 => ?_) (fun q11 => ?_)
          · omega
          · refine s_iload_n C dX8_number_49 rfl ?_
            refine s_goto (tgt := 59) C dX8_number_50 (by decide) ?_
            refine s_istore_n C dX8_number_59 (by decide) (Nat.le_of_ble_eq_true rfl) rfl ?_
            show WP E ad 60 [some (.ref (ad 66)), some (.int z7), some (.int z2), some (.int z7)] [] σ
            refine s_aload_n C dX8_number_60 rfl ?_
            refine s_dup C dX8_number_61 rfl ?_
            refine s_get (k := 1) (x := (σ.1 66 1)) C y66 fw_X8_15 rfl rfl dX8_number_62 ?_
            refine s_iconst C dX8_number_65 (by decide) (fun z12 tz12 => ?_)
            refine s_iadd C dX8_number_66 (by omega) (fun z13 tz13 => ?_)
            refine s_put (k := 1) C y66 fw_X8_15 fp_7_1 rfl dX8_number_67 ?_
            refine s_iinc C dX8_number_70 rfl (by decide) rfl (by decide) (by omega) (fun z14 tz14 => ?_)
            show WP E ad 73 [some (.ref (ad 66)), some (.int z7), some (.int z14), some (.int z7)] [] (sV σ 66 1 z13)
            refine s_goto (tgt := 4) C dX8_number_73 (by decide) ?_
            refine s_iload_n C dX8_number_4 rfl ?_
            refine s_iconst C dX8_number_5 (by decide) (fun z15 tz15 => ?_)
            refine s_icmp_ge (tgt := 76) C dX8_number_6 (by decide) (fun q16 => ?_) (fun q16 => ?_)
            · omega
            · refine s_aload_n C dX8_number_9 rfl ?_
              refine s_get (k := 1) (x := z13) C y66 fw_X8_15 rfl rfl dX8_number_10 ?_
              refine s_aload_n C dX8_number_13 rfl ?_
              refine s_get (k := 0) (x := (σ.1 66 0)) C y66 fw_X8_9 rfl rfl dX8_number_14 ?_
              refine s_icmp_ge (tgt := 76) C dX8_number_17 (by decide) (fun q17 => ?_) (fun q17 => ?_)
              · refine s_iload_n C dX8_number_76 rfl ?_
                exact s_iret C X dX8_number_77 ⟨⟨hX.1, hX.2.1, hX.2.2.1, hX.2.2.2.1, hX.2.2.2.2.1, hX.2.2.2.2.2.1, hX.2.2.2.2.2.2.1, hX.2.2.2.2.2.2.2.1, hX.2.2.2.2.2.2.2.2.1, hX.2.2.2.2.2.2.2.2.2.1, hX.2.2.2.2.2.2.2.2.2.2.1, hX.2.2.2.2.2.2.2.2.2.2.2.1, ⟨(by show 0 ≤ Int32.toInt (σ.1 66 0) ∧ Int32.toInt (σ.1 66 0) ≤ 60; omega), (by show 0 ≤ Int32.toInt z13 ∧ Int32.toInt z13 ≤ 60; omega)⟩, hX.2.2.2.2.2.2.2.2.2.2.2.2.2⟩, (Fr.sV Fr.rf (Or.inr (by decide))), by omega⟩
              · refine s_aload_n C dX8_number_20 rfl ?_
                refine s_getr (k := 2) (j := 67) C y66 fw_X8_18 rfl dX8_number_21 ?_
                refine s_aload_n C dX8_number_24 rfl ?_
                refine s_get (k := 1) (x := z13) C y66 fw_X8_15 rfl rfl dX8_number_25 ?_
                refine s_iald (r := (σ.1 67 z13.toNatClampNeg)) C y67 (by omega) rfl dX8_number_28 ?_
                refine s_bipush C dX8_number_29 (by decide) (fun z18 tz18 => ?_)
                refine s_isubU C dX8_number_31 (fun z19 tz19 => ?_)
                refine s_istore_n C dX8_number_32 (by decide) (Nat.le_of_ble_eq_true rfl) rfl ?_
                show WP E ad 33 [some (.ref (ad 66)), some (.int z7), some (.int z14), some (.int z19)] [] (sV σ 66 1 z13)
                refine s_iload_n C dX8_number_33 rfl ?_
                refine s_if_lt (tgt := 43) C dX8_number_34 (by decide) (fun q20 => ?_) (fun q20 => ?_)
                · refine s_iload_n C dX8_number_43 rfl ?_
                  exact s_iret C X dX8_number_44 ⟨⟨hX.1, hX.2.1, hX.2.2.1, hX.2.2.2.1, hX.2.2.2.2.1, hX.2.2.2.2.2.1, hX.2.2.2.2.2.2.1, hX.2.2.2.2.2.2.2.1, hX.2.2.2.2.2.2.2.2.1, hX.2.2.2.2.2.2.2.2.2.1, hX.2.2.2.2.2.2.2.2.2.2.1, hX.2.2.2.2.2.2.2.2.2.2.2.1, ⟨(by show 0 ≤ Int32.toInt (σ.1 66 0) ∧ Int32.toInt (σ.1 66 0) ≤ 60; omega), (by show 0 ≤ Int32.toInt z13 ∧ Int32.toInt z13 ≤ 60; omega)⟩, hX.2.2.2.2.2.2.2.2.2.2.2.2.2⟩, (Fr.sV Fr.rf (Or.inr (by decide))), by omega⟩
                · refine s_iload_n C dX8_number_37 rfl ?_
                  refine s_bipush C dX8_number_38 (by decide) (fun z21 tz21 => ?_)
                  refine s_icmp_le (tgt := 45) C dX8_number_40 (by decide) (fun q22 => ?_) (fun q22 => ?_)
                  · refine s_iload_n C dX8_number_45 rfl ?_
                    refine s_if_ne (tgt := 53) C dX8_number_46 (by decide) (fun q23 => ?_) (fun q23 => ?_)
                    · refine s_iload_n C dX8_number_53 rfl ?_
                      refine s_bipush C dX8_number_54 (by decide) (fun z24 tz24 => ?_)
                      refine s_imulR C tz24 dX8_number_56 (by omega) (fun z25 tz25 => ?_)
                      refine s_iload_n C dX8_number_57 rfl ?_
                      refine s_iadd C dX8_number_58 (by omega) (fun z26 tz26 => ?_)
                      refine s_istore_n C dX8_number_59 (by decide) (Nat.le_of_ble_eq_true rfl) rfl ?_
                      show WP E ad 60 [some (.ref (ad 66)), some (.int z26), some (.int z14), some (.int z19)] [] (sV σ 66 1 z13)
                      refine s_aload_n C dX8_number_60 rfl ?_
                      refine s_dup C dX8_number_61 rfl ?_
                      refine s_get (k := 1) (x := z13) C y66 fw_X8_15 rfl rfl dX8_number_62 ?_
                      refine s_iconst C dX8_number_65 (by decide) (fun z27 tz27 => ?_)
                      refine s_iadd C dX8_number_66 (by omega) (fun z28 tz28 => ?_)
                      refine s_put (k := 1) C y66 fw_X8_15 fp_7_1 rfl dX8_number_67 ?_
                      refine s_iinc C dX8_number_70 rfl (by decide) rfl (by decide) (by omega) (fun z29 tz29 => ?_)
                      show WP E ad 73 [some (.ref (ad 66)), some (.int z26), some (.int z29), some (.int z19)] [] (sV (sV σ 66 1 z13) 66 1 z28)
                      refine s_goto (tgt := 4) C dX8_number_73 (by decide) ?_
                      refine s_iload_n C dX8_number_4 rfl ?_
                      refine s_iconst C dX8_number_5 (by decide) (fun z30 tz30 => ?_)
                      refine s_icmp_ge (tgt := 76) C dX8_number_6 (by decide) (fun q31 => ?_) (fun q31 => ?_)
                      · refine s_iload_n C dX8_number_76 rfl ?_
                        exact s_iret C X dX8_number_77 ⟨⟨hX.1, hX.2.1, hX.2.2.1, hX.2.2.2.1, hX.2.2.2.2.1, hX.2.2.2.2.2.1, hX.2.2.2.2.2.2.1, hX.2.2.2.2.2.2.2.1, hX.2.2.2.2.2.2.2.2.1, hX.2.2.2.2.2.2.2.2.2.1, hX.2.2.2.2.2.2.2.2.2.2.1, hX.2.2.2.2.2.2.2.2.2.2.2.1, ⟨(by show 0 ≤ Int32.toInt (σ.1 66 0) ∧ Int32.toInt (σ.1 66 0) ≤ 60; omega), (by show 0 ≤ Int32.toInt z28 ∧ Int32.toInt z28 ≤ 60; omega)⟩, hX.2.2.2.2.2.2.2.2.2.2.2.2.2⟩, (Fr.sV (Fr.sV Fr.rf (Or.inr (by decide))) (Or.inr (by decide))), by omega⟩
                      · omega
                    · omega
                  · refine s_iload_n C dX8_number_43 rfl ?_
                    exact s_iret C X dX8_number_44 ⟨⟨hX.1, hX.2.1, hX.2.2.1, hX.2.2.2.1, hX.2.2.2.2.1, hX.2.2.2.2.2.1, hX.2.2.2.2.2.2.1, hX.2.2.2.2.2.2.2.1, hX.2.2.2.2.2.2.2.2.1, hX.2.2.2.2.2.2.2.2.2.1, hX.2.2.2.2.2.2.2.2.2.2.1, hX.2.2.2.2.2.2.2.2.2.2.2.1, ⟨(by show 0 ≤ Int32.toInt (σ.1 66 0) ∧ Int32.toInt (σ.1 66 0) ≤ 60; omega), (by show 0 ≤ Int32.toInt z13 ∧ Int32.toInt z13 ≤ 60; omega)⟩, hX.2.2.2.2.2.2.2.2.2.2.2.2.2⟩, (Fr.sV Fr.rf (Or.inr (by decide))), by omega⟩
        · refine s_iload_n C dX8_number_43 rfl ?_
          exact s_iret C X dX8_number_44 ⟨hX, Fr.rf, by omega⟩
