theorem cp_step {σ : Sg} {i j n : Nat} (h : i ≠ j) : sV (sR σ j (va_cpy (σ.1 i) (σ.1 j) 0 0 n)) j n ((sR σ j (va_cpy (σ.1 i) (σ.1 j) 0 0 n)).1 i n) = sR σ j (va_cpy (σ.1 i) (σ.1 j) 0 0 (n + 1)) := by
  have e : (sR σ j (va_cpy (σ.1 i) (σ.1 j) 0 0 n)).1 i = σ.1 i := va_up_ne _ _ h
  rw [e]
  refine Prod.ext (funext fun a => ?_) rfl
  show va_up (va_up σ.1 j _) j _ a = va_up σ.1 j _ a
  by_cases ha : a = j
  · subst ha
    rw [va_up_self, va_up_self]
    funext q
    show upd (va_up σ.1 a _ a) n (σ.1 i n) q = _
    rw [va_up_self]
    by_cases hq : q = n
    · rw [hq, pk_us, pk_cpy_in (Nat.zero_le _) (by omega)]; simp
    · rw [pk_un hq]
      unfold va_cpy
      by_cases h1 : 0 ≤ q ∧ q < 0 + n
      · rw [if_pos h1, if_pos (by omega)]
      · rw [if_neg h1, if_neg (by omega)]
  · rw [va_up_ne _ _ ha, va_up_ne _ _ ha, va_up_ne _ _ ha]
theorem cp_0 {σ : Sg} {i j : Nat} : sR σ j (va_cpy (σ.1 i) (σ.1 j) 0 0 0) = σ := by
  have e : va_cpy (σ.1 i) (σ.1 j) 0 0 0 = σ.1 j := by
    funext q
    exact pk_cpy_out (Or.inr (Nat.zero_le _))
  rw [e]
  refine Prod.ext (funext fun a => ?_) rfl
  show va_up σ.1 j (σ.1 j) a = σ.1 a
  by_cases ha : a = j
  · rw [ha, va_up_self]
  · rw [va_up_ne _ _ ha]
theorem cl_lt {x : Int32} {n : Nat} (h : x.toInt < n) (h0 : 0 < n) : x.toNatClampNeg < n := by unfold Int32.toNatClampNeg; omega
theorem cl_s {x z : Int32} (h0 : 0 ≤ x.toInt) (h : z.toInt = x.toInt + 1) : z.toInt.toNat = x.toNatClampNeg + 1 := by unfold Int32.toNatClampNeg; omega
theorem cu_off {li li' pr pr' cu : Int32} {ev ev' cd cm ca : Nat → Int32} (h : CU li pr cu ev cd cm ca) (h0 : li'.toInt = 0) : CU li' pr' cu ev' cd cm ca := ⟨h.1, h.2.1, h.2.2.1, h.2.2.2.1, fun q => absurd h0 q⟩
set_option maxRecDepth 100000 in
theorem L_copyRow (l : Launch) (ad : Nat → Nat) (E : Ev) (i j len b b2 : Nat) (yi : lay[i]? = some (.inl (0, len, b))) (yj : lay[j]? = some (.inl (0, len, b2))) (hij : i ≠ j) (hlen : len < 10000) (σ : Sg) (C : Cx E l (rmk 0) 3 cX10_copyRow RX10) (X : Rx E ad none (oV (fun τ => τ = sR σ j (σ.1 i))))  : ∀ (n : Nat) (τ : Sg) (z : Int32), (τ = sR σ j (va_cpy (σ.1 i) (σ.1 j) 0 0 z.toInt.toNat)) → (0 ≤ z.toInt) → (z.toInt ≤ len) → ((len : Int) - z.toInt).toNat < n → WP E ad 2 [some (.ref (ad i)), some (.ref (ad j)), some (.int z)] [] τ := by
  intro n
  induction n with
  | zero => intro τ z ht h0 h1 hm9; exact absurd hm9 (Nat.not_lt_zero _)
  | succ n ih =>
    intro τ z ht h0 h1 hm9
    refine s_iload_n C dX10_copyRow_2 rfl ?_
    refine s_aload_n C dX10_copyRow_3 rfl ?_
    refine s_alen0 C yi (by omega) dX10_copyRow_4 (fun z1 tz1 => ?_)
    refine s_icmp_ge (tgt := 20) C dX10_copyRow_5 (by decide) (fun q2 => ?_) (fun q2 => ?_)
    · have e : z.toInt.toNat = len := by omega
      rw [ht, e]
      exact wp_row yj (fun q hq => by rw [pk_cpy_in (Nat.zero_le _) (by omega)]; simp) (s_vret C X dX10_copyRow_20 rfl)
    · refine s_aload_n C dX10_copyRow_8 rfl ?_
      refine s_iload_n C dX10_copyRow_9 rfl ?_
      refine s_aload_n C dX10_copyRow_10 rfl ?_
      refine s_iload_n C dX10_copyRow_11 rfl ?_
      refine s_iald (r := (τ.1 i z.toNatClampNeg)) C yi (by omega) rfl dX10_copyRow_12 ?_
      refine s_iast C yj (by omega) dX10_copyRow_13 ?_
      refine s_iinc C dX10_copyRow_14 rfl (by decide) rfl (by decide) (by omega) (fun z3 tz3 => ?_)
      show WP E ad 17 [some (.ref (ad i)), some (.ref (ad j)), some (.int z3)] [] (sV τ j z.toNatClampNeg (τ.1 i z.toNatClampNeg))
      refine s_goto (tgt := 2) C dX10_copyRow_17 (by decide) ?_
      exact ih ((sV τ j z.toNatClampNeg (τ.1 i z.toNatClampNeg))) z3 (by rw [ht, cl_n, ← cl_n z, cl_s h0 tz3]; exact cp_step hij) (by omega) (by omega) (by omega)
set_option maxRecDepth 100000 in
theorem c_X10_copyRow (l : Launch) (ad : Nat → Nat) (i j len b b2 : Nat) (yi : lay[i]? = some (.inl (0, len, b))) (yj : lay[j]? = some (.inl (0, len, b2))) (hij : i ≠ j) (hlen : len < 10000) (σ : Sg) : Mt l yX10_copyRow cX10_copyRow 3 none 0 ad σ [.ref (ad i), .ref (ad j)] (oV (fun τ => τ = sR σ j (σ.1 i))) := by
  refine Mt_intro (by decide +kernel) (by simp [lg_sl, Value.category]) (fun E C X => ?_)
  show WP E ad 0 [some (.ref (ad i)), some (.ref (ad j)), none] [] σ
  refine s_iconst C dX10_copyRow_0 (by decide) (fun z1 tz1 => ?_)
  refine s_istore_n C dX10_copyRow_1 (by decide) (Nat.le_of_ble_eq_true rfl) rfl ?_
  show WP E ad 2 [some (.ref (ad i)), some (.ref (ad j)), some (.int z1)] [] σ
  exact L_copyRow l ad E i j len b b2 yi yj hij hlen σ C X 20000 σ z1 (by rw [show z1.toInt.toNat = 0 by omega]; exact cp_0.symm) (by omega) (by omega) (by omega)
set_option maxRecDepth 100000 in
theorem c_X10_image (l : Launch) (ad : Nat → Nat) (σ : Sg)  (hI : IM σ.1) : Mt l yX10_image cX10_image 1 (some .int) 1 ad σ [.ref (ad 71)] (oI (fun r τ => IM τ.1 ∧ Fr [89, 90, 91, 92, 93, 94, 95, 96, 97, 98, 99, 100, 101, 102] [(71, 21), (71, 22), (71, 30), (71, 32)] σ τ)) := by
  have hpr := hI.pr
  have htot := hI.tot
  have hms := hI.ms
  have htp := hI.tp
  refine Mt_intro (by decide +kernel) (by simp [lg_sl, Value.category]) (fun E C X => ?_)
  show WP E ad 0 [some (.ref (ad 71))] [] σ
  refine s_aload_n C dX10_image_0 rfl ?_
  refine s_iconst C dX10_image_1 (by decide) (fun z1 tz1 => ?_)
  refine s_putz (k := 21) C y71 fw_X10_352 fp_9_21 rfl (by omega) dX10_image_2 ?_
  refine s_aload_n C dX10_image_5 rfl ?_
  refine s_aload_n C dX10_image_6 rfl ?_
  refine s_get (k := 0) (x := (σ.1 71 0)) C y71 fw_X10_9 rfl rfl dX10_image_7 ?_
  refine s_put (k := 22) C y71 fw_X10_355 fp_9_22 rfl dX10_image_10 ?_
  refine s_aload_n C dX10_image_13 rfl ?_
  refine s_aload_n C dX10_image_14 rfl ?_
  refine s_get (k := 8) (x := (σ.1 71 8)) C y71 fw_X10_175 rfl rfl dX10_image_15 ?_
  refine s_put (k := 30) C y71 fw_X10_358 fp_9_30 rfl dX10_image_18 ?_
  refine s_aload_n C dX10_image_21 rfl ?_
  refine s_aload_n C dX10_image_22 rfl ?_
  refine s_get (k := 10) (x := (σ.1 71 10)) C y71 fw_X10_178 rfl rfl dX10_image_23 ?_
  refine s_put (k := 32) C y71 fw_X10_361 fp_9_32 rfl dX10_image_26 ?_
  refine s_aload_n C dX10_image_29 rfl ?_
  refine s_getr (k := 1) (j := 72) C y71 fw_X10_15 rfl dX10_image_30 ?_
  refine s_aload_n C dX10_image_33 rfl ?_
  refine s_getr (k := 23) (j := 89) C y71 fw_X10_68 rfl dX10_image_34 ?_
  refine s_callSV (st := []) C (c_X10_copyRow l ad 72 89 4 0 0 y72 y89 (by decide) (by decide) (sV (sV (sV (sV σ 71 21 z1) 71 22 (σ.1 71 0)) 71 30 (σ.1 71 8)) 71 32 (σ.1 71 10))) cv_X10_364 rfl rfl ⟨by decide, by decide⟩ (Nat.le_of_ble_eq_true rfl) dX10_image_37 ?_
  intro τ3 h4
  replace h4 : τ3 = (sR (sV (sV (sV (sV σ 71 21 z1) 71 22 (σ.1 71 0)) 71 30 (σ.1 71 8)) 71 32 (σ.1 71 10)) 89 (σ.1 72)) := h4; replace h4 := h4.symm; subst h4
  refine s_aload_n C dX10_image_40 rfl ?_
  refine s_getr (k := 2) (j := 73) C y71 fw_X10_19 rfl dX10_image_41 ?_
  refine s_aload_n C dX10_image_44 rfl ?_
  refine s_getr (k := 24) (j := 90) C y71 fw_X10_71 rfl dX10_image_45 ?_
  refine s_callSV (st := []) C (c_X10_copyRow l ad 73 90 4 0 0 y73 y90 (by decide) (by decide) (sR (sV (sV (sV (sV σ 71 21 z1) 71 22 (σ.1 71 0)) 71 30 (σ.1 71 8)) 71 32 (σ.1 71 10)) 89 (σ.1 72))) cv_X10_364 rfl rfl ⟨by decide, by decide⟩ (Nat.le_of_ble_eq_true rfl) dX10_image_48 ?_
  intro τ6 h7
  replace h7 : τ6 = (sR (sR (sV (sV (sV (sV σ 71 21 z1) 71 22 (σ.1 71 0)) 71 30 (σ.1 71 8)) 71 32 (σ.1 71 10)) 89 (σ.1 72)) 90 (σ.1 73)) := h7; replace h7 := h7.symm; subst h7
  refine s_aload_n C dX10_image_51 rfl ?_
  refine s_getr (k := 3) (j := 74) C y71 fw_X10_22 rfl dX10_image_52 ?_
  refine s_aload_n C dX10_image_55 rfl ?_
  refine s_getr (k := 25) (j := 91) C y71 fw_X10_74 rfl dX10_image_56 ?_
  refine s_callSV (st := []) C (c_X10_copyRow l ad 74 91 20 0 0 y74 y91 (by decide) (by decide) (sR (sR (sV (sV (sV (sV σ 71 21 z1) 71 22 (σ.1 71 0)) 71 30 (σ.1 71 8)) 71 32 (σ.1 71 10)) 89 (σ.1 72)) 90 (σ.1 73))) cv_X10_364 rfl rfl ⟨by decide, by decide⟩ (Nat.le_of_ble_eq_true rfl) dX10_image_59 ?_
  intro τ9 h10
  replace h10 : τ9 = (sR (sR (sR (sV (sV (sV (sV σ 71 21 z1) 71 22 (σ.1 71 0)) 71 30 (σ.1 71 8)) 71 32 (σ.1 71 10)) 89 (σ.1 72)) 90 (σ.1 73)) 91 (σ.1 74)) := h10; replace h10 := h10.symm; subst h10
  refine s_aload_n C dX10_image_62 rfl ?_
  refine s_getr (k := 4) (j := 75) C y71 fw_X10_25 rfl dX10_image_63 ?_
  refine s_aload_n C dX10_image_66 rfl ?_
  refine s_getr (k := 26) (j := 92) C y71 fw_X10_77 rfl dX10_image_67 ?_
  refine s_callSV (st := []) C (c_X10_copyRow l ad 75 92 20 0 0 y75 y92 (by decide) (by decide) (sR (sR (sR (sV (sV (sV (sV σ 71 21 z1) 71 22 (σ.1 71 0)) 71 30 (σ.1 71 8)) 71 32 (σ.1 71 10)) 89 (σ.1 72)) 90 (σ.1 73)) 91 (σ.1 74))) cv_X10_364 rfl rfl ⟨by decide, by decide⟩ (Nat.le_of_ble_eq_true rfl) dX10_image_70 ?_
  intro τ12 h13
  replace h13 : τ12 = (sR (sR (sR (sR (sV (sV (sV (sV σ 71 21 z1) 71 22 (σ.1 71 0)) 71 30 (σ.1 71 8)) 71 32 (σ.1 71 10)) 89 (σ.1 72)) 90 (σ.1 73)) 91 (σ.1 74)) 92 (σ.1 75)) := h13; replace h13 := h13.symm; subst h13
  refine s_aload_n C dX10_image_73 rfl ?_
  refine s_getr (k := 5) (j := 76) C y71 fw_X10_28 rfl dX10_image_74 ?_
  refine s_aload_n C dX10_image_77 rfl ?_
  refine s_getr (k := 27) (j := 93) C y71 fw_X10_80 rfl dX10_image_78 ?_
  refine s_callSV (st := []) C (c_X10_copyRow l ad 76 93 20 0 0 y76 y93 (by decide) (by decide) (sR (sR (sR (sR (sV (sV (sV (sV σ 71 21 z1) 71 22 (σ.1 71 0)) 71 30 (σ.1 71 8)) 71 32 (σ.1 71 10)) 89 (σ.1 72)) 90 (σ.1 73)) 91 (σ.1 74)) 92 (σ.1 75))) cv_X10_364 rfl rfl ⟨by decide, by decide⟩ (Nat.le_of_ble_eq_true rfl) dX10_image_81 ?_
  intro τ15 h16
  replace h16 : τ15 = (sR (sR (sR (sR (sR (sV (sV (sV (sV σ 71 21 z1) 71 22 (σ.1 71 0)) 71 30 (σ.1 71 8)) 71 32 (σ.1 71 10)) 89 (σ.1 72)) 90 (σ.1 73)) 91 (σ.1 74)) 92 (σ.1 75)) 93 (σ.1 76)) := h16; replace h16 := h16.symm; subst h16
  refine s_aload_n C dX10_image_84 rfl ?_
  refine s_getr (k := 6) (j := 77) C y71 fw_X10_31 rfl dX10_image_85 ?_
  refine s_aload_n C dX10_image_88 rfl ?_
  refine s_getr (k := 28) (j := 94) C y71 fw_X10_83 rfl dX10_image_89 ?_
  refine s_callSV (st := []) C (c_X10_copyRow l ad 77 94 20 0 0 y77 y94 (by decide) (by decide) (sR (sR (sR (sR (sR (sV (sV (sV (sV σ 71 21 z1) 71 22 (σ.1 71 0)) 71 30 (σ.1 71 8)) 71 32 (σ.1 71 10)) 89 (σ.1 72)) 90 (σ.1 73)) 91 (σ.1 74)) 92 (σ.1 75)) 93 (σ.1 76))) cv_X10_364 rfl rfl ⟨by decide, by decide⟩ (Nat.le_of_ble_eq_true rfl) dX10_image_92 ?_
  intro τ18 h19
  replace h19 : τ18 = (sR (sR (sR (sR (sR (sR (sV (sV (sV (sV σ 71 21 z1) 71 22 (σ.1 71 0)) 71 30 (σ.1 71 8)) 71 32 (σ.1 71 10)) 89 (σ.1 72)) 90 (σ.1 73)) 91 (σ.1 74)) 92 (σ.1 75)) 93 (σ.1 76)) 94 (σ.1 77)) := h19; replace h19 := h19.symm; subst h19
  refine s_aload_n C dX10_image_95 rfl ?_
  refine s_getr (k := 7) (j := 78) C y71 fw_X10_34 rfl dX10_image_96 ?_
  refine s_aload_n C dX10_image_99 rfl ?_
  refine s_getr (k := 29) (j := 95) C y71 fw_X10_86 rfl dX10_image_100 ?_
  refine s_callSV (st := []) C (c_X10_copyRow l ad 78 95 80 0 0 y78 y95 (by decide) (by decide) (sR (sR (sR (sR (sR (sR (sV (sV (sV (sV σ 71 21 z1) 71 22 (σ.1 71 0)) 71 30 (σ.1 71 8)) 71 32 (σ.1 71 10)) 89 (σ.1 72)) 90 (σ.1 73)) 91 (σ.1 74)) 92 (σ.1 75)) 93 (σ.1 76)) 94 (σ.1 77))) cv_X10_364 rfl rfl ⟨by decide, by decide⟩ (Nat.le_of_ble_eq_true rfl) dX10_image_103 ?_
  intro τ21 h22
  replace h22 : τ21 = (sR (sR (sR (sR (sR (sR (sR (sV (sV (sV (sV σ 71 21 z1) 71 22 (σ.1 71 0)) 71 30 (σ.1 71 8)) 71 32 (σ.1 71 10)) 89 (σ.1 72)) 90 (σ.1 73)) 91 (σ.1 74)) 92 (σ.1 75)) 93 (σ.1 76)) 94 (σ.1 77)) 95 (σ.1 78)) := h22; replace h22 := h22.symm; subst h22
  refine s_aload_n C dX10_image_106 rfl ?_
  refine s_getr (k := 9) (j := 79) C y71 fw_X10_37 rfl dX10_image_107 ?_
  refine s_aload_n C dX10_image_110 rfl ?_
  refine s_getr (k := 31) (j := 96) C y71 fw_X10_89 rfl dX10_image_111 ?_
  refine s_callSV (st := []) C (c_X10_copyRow l ad 79 96 20 0 0 y79 y96 (by decide) (by decide) (sR (sR (sR (sR (sR (sR (sR (sV (sV (sV (sV σ 71 21 z1) 71 22 (σ.1 71 0)) 71 30 (σ.1 71 8)) 71 32 (σ.1 71 10)) 89 (σ.1 72)) 90 (σ.1 73)) 91 (σ.1 74)) 92 (σ.1 75)) 93 (σ.1 76)) 94 (σ.1 77)) 95 (σ.1 78))) cv_X10_364 rfl rfl ⟨by decide, by decide⟩ (Nat.le_of_ble_eq_true rfl) dX10_image_114 ?_
  intro τ24 h25
  replace h25 : τ24 = (sR (sR (sR (sR (sR (sR (sR (sR (sV (sV (sV (sV σ 71 21 z1) 71 22 (σ.1 71 0)) 71 30 (σ.1 71 8)) 71 32 (σ.1 71 10)) 89 (σ.1 72)) 90 (σ.1 73)) 91 (σ.1 74)) 92 (σ.1 75)) 93 (σ.1 76)) 94 (σ.1 77)) 95 (σ.1 78)) 96 (σ.1 79)) := h25; replace h25 := h25.symm; subst h25
  refine s_aload_n C dX10_image_117 rfl ?_
  refine s_getr (k := 11) (j := 80) C y71 fw_X10_40 rfl dX10_image_118 ?_
  refine s_aload_n C dX10_image_121 rfl ?_
  refine s_getr (k := 33) (j := 97) C y71 fw_X10_92 rfl dX10_image_122 ?_
  refine s_callSV (st := []) C (c_X10_copyRow l ad 80 97 8 0 0 y80 y97 (by decide) (by decide) (sR (sR (sR (sR (sR (sR (sR (sR (sV (sV (sV (sV σ 71 21 z1) 71 22 (σ.1 71 0)) 71 30 (σ.1 71 8)) 71 32 (σ.1 71 10)) 89 (σ.1 72)) 90 (σ.1 73)) 91 (σ.1 74)) 92 (σ.1 75)) 93 (σ.1 76)) 94 (σ.1 77)) 95 (σ.1 78)) 96 (σ.1 79))) cv_X10_364 rfl rfl ⟨by decide, by decide⟩ (Nat.le_of_ble_eq_true rfl) dX10_image_125 ?_
  intro τ27 h28
  replace h28 : τ27 = (sR (sR (sR (sR (sR (sR (sR (sR (sR (sV (sV (sV (sV σ 71 21 z1) 71 22 (σ.1 71 0)) 71 30 (σ.1 71 8)) 71 32 (σ.1 71 10)) 89 (σ.1 72)) 90 (σ.1 73)) 91 (σ.1 74)) 92 (σ.1 75)) 93 (σ.1 76)) 94 (σ.1 77)) 95 (σ.1 78)) 96 (σ.1 79)) 97 (σ.1 80)) := h28; replace h28 := h28.symm; subst h28
  refine s_aload_n C dX10_image_128 rfl ?_
  refine s_getr (k := 12) (j := 81) C y71 fw_X10_43 rfl dX10_image_129 ?_
  refine s_aload_n C dX10_image_132 rfl ?_
  refine s_getr (k := 34) (j := 98) C y71 fw_X10_95 rfl dX10_image_133 ?_
  refine s_callSV (st := []) C (c_X10_copyRow l ad 81 98 8 0 0 y81 y98 (by decide) (by decide) (sR (sR (sR (sR (sR (sR (sR (sR (sR (sV (sV (sV (sV σ 71 21 z1) 71 22 (σ.1 71 0)) 71 30 (σ.1 71 8)) 71 32 (σ.1 71 10)) 89 (σ.1 72)) 90 (σ.1 73)) 91 (σ.1 74)) 92 (σ.1 75)) 93 (σ.1 76)) 94 (σ.1 77)) 95 (σ.1 78)) 96 (σ.1 79)) 97 (σ.1 80))) cv_X10_364 rfl rfl ⟨by decide, by decide⟩ (Nat.le_of_ble_eq_true rfl) dX10_image_136 ?_
  intro τ30 h31
  replace h31 : τ30 = (sR (sR (sR (sR (sR (sR (sR (sR (sR (sR (sV (sV (sV (sV σ 71 21 z1) 71 22 (σ.1 71 0)) 71 30 (σ.1 71 8)) 71 32 (σ.1 71 10)) 89 (σ.1 72)) 90 (σ.1 73)) 91 (σ.1 74)) 92 (σ.1 75)) 93 (σ.1 76)) 94 (σ.1 77)) 95 (σ.1 78)) 96 (σ.1 79)) 97 (σ.1 80)) 98 (σ.1 81)) := h31; replace h31 := h31.symm; subst h31
  refine s_aload_n C dX10_image_139 rfl ?_
  refine s_getr (k := 13) (j := 82) C y71 fw_X10_46 rfl dX10_image_140 ?_
  refine s_aload_n C dX10_image_143 rfl ?_
  refine s_getr (k := 35) (j := 99) C y71 fw_X10_98 rfl dX10_image_144 ?_
  refine s_callSV (st := []) C (c_X10_copyRow l ad 82 99 8 0 0 y82 y99 (by decide) (by decide) (sR (sR (sR (sR (sR (sR (sR (sR (sR (sR (sV (sV (sV (sV σ 71 21 z1) 71 22 (σ.1 71 0)) 71 30 (σ.1 71 8)) 71 32 (σ.1 71 10)) 89 (σ.1 72)) 90 (σ.1 73)) 91 (σ.1 74)) 92 (σ.1 75)) 93 (σ.1 76)) 94 (σ.1 77)) 95 (σ.1 78)) 96 (σ.1 79)) 97 (σ.1 80)) 98 (σ.1 81))) cv_X10_364 rfl rfl ⟨by decide, by decide⟩ (Nat.le_of_ble_eq_true rfl) dX10_image_147 ?_
  intro τ33 h34
  replace h34 : τ33 = (sR (sR (sR (sR (sR (sR (sR (sR (sR (sR (sR (sV (sV (sV (sV σ 71 21 z1) 71 22 (σ.1 71 0)) 71 30 (σ.1 71 8)) 71 32 (σ.1 71 10)) 89 (σ.1 72)) 90 (σ.1 73)) 91 (σ.1 74)) 92 (σ.1 75)) 93 (σ.1 76)) 94 (σ.1 77)) 95 (σ.1 78)) 96 (σ.1 79)) 97 (σ.1 80)) 98 (σ.1 81)) 99 (σ.1 82)) := h34; replace h34 := h34.symm; subst h34
  refine s_aload_n C dX10_image_150 rfl ?_
  refine s_getr (k := 14) (j := 83) C y71 fw_X10_49 rfl dX10_image_151 ?_
  refine s_aload_n C dX10_image_154 rfl ?_
  refine s_getr (k := 36) (j := 100) C y71 fw_X10_101 rfl dX10_image_155 ?_
  refine s_callSV (st := []) C (c_X10_copyRow l ad 83 100 8 0 0 y83 y100 (by decide) (by decide) (sR (sR (sR (sR (sR (sR (sR (sR (sR (sR (sR (sV (sV (sV (sV σ 71 21 z1) 71 22 (σ.1 71 0)) 71 30 (σ.1 71 8)) 71 32 (σ.1 71 10)) 89 (σ.1 72)) 90 (σ.1 73)) 91 (σ.1 74)) 92 (σ.1 75)) 93 (σ.1 76)) 94 (σ.1 77)) 95 (σ.1 78)) 96 (σ.1 79)) 97 (σ.1 80)) 98 (σ.1 81)) 99 (σ.1 82))) cv_X10_364 rfl rfl ⟨by decide, by decide⟩ (Nat.le_of_ble_eq_true rfl) dX10_image_158 ?_
  intro τ36 h37
  replace h37 : τ36 = (sR (sR (sR (sR (sR (sR (sR (sR (sR (sR (sR (sR (sV (sV (sV (sV σ 71 21 z1) 71 22 (σ.1 71 0)) 71 30 (σ.1 71 8)) 71 32 (σ.1 71 10)) 89 (σ.1 72)) 90 (σ.1 73)) 91 (σ.1 74)) 92 (σ.1 75)) 93 (σ.1 76)) 94 (σ.1 77)) 95 (σ.1 78)) 96 (σ.1 79)) 97 (σ.1 80)) 98 (σ.1 81)) 99 (σ.1 82)) 100 (σ.1 83)) := h37; replace h37 := h37.symm; subst h37
  refine s_aload_n C dX10_image_161 rfl ?_
  refine s_getr (k := 15) (j := 84) C y71 fw_X10_52 rfl dX10_image_162 ?_
  refine s_aload_n C dX10_image_165 rfl ?_
  refine s_getr (k := 37) (j := 101) C y71 fw_X10_104 rfl dX10_image_166 ?_
  refine s_callSV (st := []) C (c_X10_copyRow l ad 84 101 3 0 0 y84 y101 (by decide) (by decide) (sR (sR (sR (sR (sR (sR (sR (sR (sR (sR (sR (sR (sV (sV (sV (sV σ 71 21 z1) 71 22 (σ.1 71 0)) 71 30 (σ.1 71 8)) 71 32 (σ.1 71 10)) 89 (σ.1 72)) 90 (σ.1 73)) 91 (σ.1 74)) 92 (σ.1 75)) 93 (σ.1 76)) 94 (σ.1 77)) 95 (σ.1 78)) 96 (σ.1 79)) 97 (σ.1 80)) 98 (σ.1 81)) 99 (σ.1 82)) 100 (σ.1 83))) cv_X10_364 rfl rfl ⟨by decide, by decide⟩ (Nat.le_of_ble_eq_true rfl) dX10_image_169 ?_
  intro τ39 h40
  replace h40 : τ39 = (sR (sR (sR (sR (sR (sR (sR (sR (sR (sR (sR (sR (sR (sV (sV (sV (sV σ 71 21 z1) 71 22 (σ.1 71 0)) 71 30 (σ.1 71 8)) 71 32 (σ.1 71 10)) 89 (σ.1 72)) 90 (σ.1 73)) 91 (σ.1 74)) 92 (σ.1 75)) 93 (σ.1 76)) 94 (σ.1 77)) 95 (σ.1 78)) 96 (σ.1 79)) 97 (σ.1 80)) 98 (σ.1 81)) 99 (σ.1 82)) 100 (σ.1 83)) 101 (σ.1 84)) := h40; replace h40 := h40.symm; subst h40
  refine s_aload_n C dX10_image_172 rfl ?_
  refine s_getr (k := 16) (j := 85) C y71 fw_X10_55 rfl dX10_image_173 ?_
  refine s_aload_n C dX10_image_176 rfl ?_
  refine s_getr (k := 38) (j := 102) C y71 fw_X10_107 rfl dX10_image_177 ?_
  refine s_callSV (st := []) C (c_X10_copyRow l ad 85 102 180 0 0 y85 y102 (by decide) (by decide) (sR (sR (sR (sR (sR (sR (sR (sR (sR (sR (sR (sR (sR (sV (sV (sV (sV σ 71 21 z1) 71 22 (σ.1 71 0)) 71 30 (σ.1 71 8)) 71 32 (σ.1 71 10)) 89 (σ.1 72)) 90 (σ.1 73)) 91 (σ.1 74)) 92 (σ.1 75)) 93 (σ.1 76)) 94 (σ.1 77)) 95 (σ.1 78)) 96 (σ.1 79)) 97 (σ.1 80)) 98 (σ.1 81)) 99 (σ.1 82)) 100 (σ.1 83)) 101 (σ.1 84))) cv_X10_364 rfl rfl ⟨by decide, by decide⟩ (Nat.le_of_ble_eq_true rfl) dX10_image_180 ?_
  intro τ42 h43
  replace h43 : τ42 = (sR (sR (sR (sR (sR (sR (sR (sR (sR (sR (sR (sR (sR (sR (sV (sV (sV (sV σ 71 21 z1) 71 22 (σ.1 71 0)) 71 30 (σ.1 71 8)) 71 32 (σ.1 71 10)) 89 (σ.1 72)) 90 (σ.1 73)) 91 (σ.1 74)) 92 (σ.1 75)) 93 (σ.1 76)) 94 (σ.1 77)) 95 (σ.1 78)) 96 (σ.1 79)) 97 (σ.1 80)) 98 (σ.1 81)) 99 (σ.1 82)) 100 (σ.1 83)) 101 (σ.1 84)) 102 (σ.1 85)) := h43; replace h43 := h43.symm; subst h43
  refine s_aload_n C dX10_image_183 rfl ?_
  refine s_get (k := 8) (x := (σ.1 71 8)) C y71 fw_X10_175 rfl rfl dX10_image_184 ?_
  exact s_iret C X dX10_image_187 ⟨⟨hI.1, hI.2.1, hI.2.2.1, hI.2.2.2.1, hI.2.2.2.2.1, hI.2.2.2.2.2.1, fun _ => ⟨hI.1, hI.2.1, hI.2.2.2.2.1⟩⟩, (Fr.sR (Fr.sR (Fr.sR (Fr.sR (Fr.sR (Fr.sR (Fr.sR (Fr.sR (Fr.sR (Fr.sR (Fr.sR (Fr.sR (Fr.sR (Fr.sR (Fr.sV (Fr.sV (Fr.sV (Fr.sV Fr.rf (Or.inr (by decide))) (Or.inr (by decide))) (Or.inr (by decide))) (Or.inr (by decide))) (by decide)) (by decide)) (by decide)) (by decide)) (by decide)) (by decide)) (by decide)) (by decide)) (by decide)) (by decide)) (by decide)) (by decide)) (by decide)) (by decide))⟩
set_option maxRecDepth 100000 in
theorem c_X10_undo (l : Launch) (ad : Nat → Nat) (σ : Sg)  (hI : IM σ.1) : Mt l yX10_undo cX10_undo 1 (some .int) 1 ad σ [.ref (ad 71)] (oI (fun r τ => IM τ.1 ∧ Fr [72, 73, 74, 75, 76, 77, 78, 79, 80, 81, 82, 83, 84, 85] [(71, 0), (71, 8), (71, 10), (71, 39)] σ τ)) := by
  have hpr := hI.pr
  have htot := hI.tot
  have hms := hI.ms
  have htp := hI.tp
  refine Mt_intro (by decide +kernel) (by simp [lg_sl, Value.category]) (fun E C X => ?_)
  show WP E ad 0 [some (.ref (ad 71))] [] σ
  refine s_aload_n C dX10_undo_0 rfl ?_
  refine s_get (k := 21) (x := (σ.1 71 21)) C y71 fw_X10_352 rfl rfl dX10_undo_1 ?_
  refine s_if_ne (tgt := 10) C dX10_undo_4 (by decide) (fun q1 => ?_) (fun q1 => ?_)
  · refine s_aload_n C dX10_undo_10 rfl ?_
    refine s_aload_n C dX10_undo_11 rfl ?_
    refine s_get (k := 22) (x := (σ.1 71 22)) C y71 fw_X10_355 rfl rfl dX10_undo_12 ?_
    refine s_put (k := 0) C y71 fw_X10_9 fp_9_0 rfl dX10_undo_15 ?_
    refine s_aload_n C dX10_undo_18 rfl ?_
    refine s_aload_n C dX10_undo_19 rfl ?_
    refine s_get (k := 30) (x := (σ.1 71 30)) C y71 fw_X10_358 rfl rfl dX10_undo_20 ?_
    refine s_put (k := 8) C y71 fw_X10_175 fp_9_8 rfl dX10_undo_23 ?_
    refine s_aload_n C dX10_undo_26 rfl ?_
    refine s_aload_n C dX10_undo_27 rfl ?_
    refine s_get (k := 32) (x := (σ.1 71 32)) C y71 fw_X10_361 rfl rfl dX10_undo_28 ?_
    refine s_put (k := 10) C y71 fw_X10_178 fp_9_10 rfl dX10_undo_31 ?_
    refine s_aload_n C dX10_undo_34 rfl ?_
    refine s_getr (k := 23) (j := 89) C y71 fw_X10_68 rfl dX10_undo_35 ?_
    refine s_aload_n C dX10_undo_38 rfl ?_
    refine s_getr (k := 1) (j := 72) C y71 fw_X10_15 rfl dX10_undo_39 ?_
    refine s_callSV (st := []) C (c_X10_copyRow l ad 89 72 4 0 0 y89 y72 (by decide) (by decide) (sV (sV (sV σ 71 0 (σ.1 71 22)) 71 8 (σ.1 71 30)) 71 10 (σ.1 71 32))) cv_X10_364 rfl rfl ⟨by decide, by decide⟩ (Nat.le_of_ble_eq_true rfl) dX10_undo_42 ?_
    intro τ3 h4
    replace h4 : τ3 = (sR (sV (sV (sV σ 71 0 (σ.1 71 22)) 71 8 (σ.1 71 30)) 71 10 (σ.1 71 32)) 72 (σ.1 89)) := h4; replace h4 := h4.symm; subst h4
    refine s_aload_n C dX10_undo_45 rfl ?_
    refine s_getr (k := 24) (j := 90) C y71 fw_X10_71 rfl dX10_undo_46 ?_
    refine s_aload_n C dX10_undo_49 rfl ?_
    refine s_getr (k := 2) (j := 73) C y71 fw_X10_19 rfl dX10_undo_50 ?_
    refine s_callSV (st := []) C (c_X10_copyRow l ad 90 73 4 0 0 y90 y73 (by decide) (by decide) (sR (sV (sV (sV σ 71 0 (σ.1 71 22)) 71 8 (σ.1 71 30)) 71 10 (σ.1 71 32)) 72 (σ.1 89))) cv_X10_364 rfl rfl ⟨by decide, by decide⟩ (Nat.le_of_ble_eq_true rfl) dX10_undo_53 ?_
    intro τ6 h7
    replace h7 : τ6 = (sR (sR (sV (sV (sV σ 71 0 (σ.1 71 22)) 71 8 (σ.1 71 30)) 71 10 (σ.1 71 32)) 72 (σ.1 89)) 73 (σ.1 90)) := h7; replace h7 := h7.symm; subst h7
    refine s_aload_n C dX10_undo_56 rfl ?_
    refine s_getr (k := 25) (j := 91) C y71 fw_X10_74 rfl dX10_undo_57 ?_
    refine s_aload_n C dX10_undo_60 rfl ?_
    refine s_getr (k := 3) (j := 74) C y71 fw_X10_22 rfl dX10_undo_61 ?_
    refine s_callSV (st := []) C (c_X10_copyRow l ad 91 74 20 0 0 y91 y74 (by decide) (by decide) (sR (sR (sV (sV (sV σ 71 0 (σ.1 71 22)) 71 8 (σ.1 71 30)) 71 10 (σ.1 71 32)) 72 (σ.1 89)) 73 (σ.1 90))) cv_X10_364 rfl rfl ⟨by decide, by decide⟩ (Nat.le_of_ble_eq_true rfl) dX10_undo_64 ?_
    intro τ9 h10
    replace h10 : τ9 = (sR (sR (sR (sV (sV (sV σ 71 0 (σ.1 71 22)) 71 8 (σ.1 71 30)) 71 10 (σ.1 71 32)) 72 (σ.1 89)) 73 (σ.1 90)) 74 (σ.1 91)) := h10; replace h10 := h10.symm; subst h10
    refine s_aload_n C dX10_undo_67 rfl ?_
    refine s_getr (k := 26) (j := 92) C y71 fw_X10_77 rfl dX10_undo_68 ?_
    refine s_aload_n C dX10_undo_71 rfl ?_
    refine s_getr (k := 4) (j := 75) C y71 fw_X10_25 rfl dX10_undo_72 ?_
    refine s_callSV (st := []) C (c_X10_copyRow l ad 92 75 20 0 0 y92 y75 (by decide) (by decide) (sR (sR (sR (sV (sV (sV σ 71 0 (σ.1 71 22)) 71 8 (σ.1 71 30)) 71 10 (σ.1 71 32)) 72 (σ.1 89)) 73 (σ.1 90)) 74 (σ.1 91))) cv_X10_364 rfl rfl ⟨by decide, by decide⟩ (Nat.le_of_ble_eq_true rfl) dX10_undo_75 ?_
    intro τ12 h13
    replace h13 : τ12 = (sR (sR (sR (sR (sV (sV (sV σ 71 0 (σ.1 71 22)) 71 8 (σ.1 71 30)) 71 10 (σ.1 71 32)) 72 (σ.1 89)) 73 (σ.1 90)) 74 (σ.1 91)) 75 (σ.1 92)) := h13; replace h13 := h13.symm; subst h13
    refine s_aload_n C dX10_undo_78 rfl ?_
    refine s_getr (k := 27) (j := 93) C y71 fw_X10_80 rfl dX10_undo_79 ?_
    refine s_aload_n C dX10_undo_82 rfl ?_
    refine s_getr (k := 5) (j := 76) C y71 fw_X10_28 rfl dX10_undo_83 ?_
    refine s_callSV (st := []) C (c_X10_copyRow l ad 93 76 20 0 0 y93 y76 (by decide) (by decide) (sR (sR (sR (sR (sV (sV (sV σ 71 0 (σ.1 71 22)) 71 8 (σ.1 71 30)) 71 10 (σ.1 71 32)) 72 (σ.1 89)) 73 (σ.1 90)) 74 (σ.1 91)) 75 (σ.1 92))) cv_X10_364 rfl rfl ⟨by decide, by decide⟩ (Nat.le_of_ble_eq_true rfl) dX10_undo_86 ?_
    intro τ15 h16
    replace h16 : τ15 = (sR (sR (sR (sR (sR (sV (sV (sV σ 71 0 (σ.1 71 22)) 71 8 (σ.1 71 30)) 71 10 (σ.1 71 32)) 72 (σ.1 89)) 73 (σ.1 90)) 74 (σ.1 91)) 75 (σ.1 92)) 76 (σ.1 93)) := h16; replace h16 := h16.symm; subst h16
    refine s_aload_n C dX10_undo_89 rfl ?_
    refine s_getr (k := 28) (j := 94) C y71 fw_X10_83 rfl dX10_undo_90 ?_
    refine s_aload_n C dX10_undo_93 rfl ?_
    refine s_getr (k := 6) (j := 77) C y71 fw_X10_31 rfl dX10_undo_94 ?_
    refine s_callSV (st := []) C (c_X10_copyRow l ad 94 77 20 0 0 y94 y77 (by decide) (by decide) (sR (sR (sR (sR (sR (sV (sV (sV σ 71 0 (σ.1 71 22)) 71 8 (σ.1 71 30)) 71 10 (σ.1 71 32)) 72 (σ.1 89)) 73 (σ.1 90)) 74 (σ.1 91)) 75 (σ.1 92)) 76 (σ.1 93))) cv_X10_364 rfl rfl ⟨by decide, by decide⟩ (Nat.le_of_ble_eq_true rfl) dX10_undo_97 ?_
    intro τ18 h19
    replace h19 : τ18 = (sR (sR (sR (sR (sR (sR (sV (sV (sV σ 71 0 (σ.1 71 22)) 71 8 (σ.1 71 30)) 71 10 (σ.1 71 32)) 72 (σ.1 89)) 73 (σ.1 90)) 74 (σ.1 91)) 75 (σ.1 92)) 76 (σ.1 93)) 77 (σ.1 94)) := h19; replace h19 := h19.symm; subst h19
    refine s_aload_n C dX10_undo_100 rfl ?_
    refine s_getr (k := 29) (j := 95) C y71 fw_X10_86 rfl dX10_undo_101 ?_
    refine s_aload_n C dX10_undo_104 rfl ?_
    refine s_getr (k := 7) (j := 78) C y71 fw_X10_34 rfl dX10_undo_105 ?_
    refine s_callSV (st := []) C (c_X10_copyRow l ad 95 78 80 0 0 y95 y78 (by decide) (by decide) (sR (sR (sR (sR (sR (sR (sV (sV (sV σ 71 0 (σ.1 71 22)) 71 8 (σ.1 71 30)) 71 10 (σ.1 71 32)) 72 (σ.1 89)) 73 (σ.1 90)) 74 (σ.1 91)) 75 (σ.1 92)) 76 (σ.1 93)) 77 (σ.1 94))) cv_X10_364 rfl rfl ⟨by decide, by decide⟩ (Nat.le_of_ble_eq_true rfl) dX10_undo_108 ?_
    intro τ21 h22
    replace h22 : τ21 = (sR (sR (sR (sR (sR (sR (sR (sV (sV (sV σ 71 0 (σ.1 71 22)) 71 8 (σ.1 71 30)) 71 10 (σ.1 71 32)) 72 (σ.1 89)) 73 (σ.1 90)) 74 (σ.1 91)) 75 (σ.1 92)) 76 (σ.1 93)) 77 (σ.1 94)) 78 (σ.1 95)) := h22; replace h22 := h22.symm; subst h22
    refine s_aload_n C dX10_undo_111 rfl ?_
    refine s_getr (k := 31) (j := 96) C y71 fw_X10_89 rfl dX10_undo_112 ?_
    refine s_aload_n C dX10_undo_115 rfl ?_
    refine s_getr (k := 9) (j := 79) C y71 fw_X10_37 rfl dX10_undo_116 ?_
    refine s_callSV (st := []) C (c_X10_copyRow l ad 96 79 20 0 0 y96 y79 (by decide) (by decide) (sR (sR (sR (sR (sR (sR (sR (sV (sV (sV σ 71 0 (σ.1 71 22)) 71 8 (σ.1 71 30)) 71 10 (σ.1 71 32)) 72 (σ.1 89)) 73 (σ.1 90)) 74 (σ.1 91)) 75 (σ.1 92)) 76 (σ.1 93)) 77 (σ.1 94)) 78 (σ.1 95))) cv_X10_364 rfl rfl ⟨by decide, by decide⟩ (Nat.le_of_ble_eq_true rfl) dX10_undo_119 ?_
    intro τ24 h25
    replace h25 : τ24 = (sR (sR (sR (sR (sR (sR (sR (sR (sV (sV (sV σ 71 0 (σ.1 71 22)) 71 8 (σ.1 71 30)) 71 10 (σ.1 71 32)) 72 (σ.1 89)) 73 (σ.1 90)) 74 (σ.1 91)) 75 (σ.1 92)) 76 (σ.1 93)) 77 (σ.1 94)) 78 (σ.1 95)) 79 (σ.1 96)) := h25; replace h25 := h25.symm; subst h25
    refine s_aload_n C dX10_undo_122 rfl ?_
    refine s_getr (k := 33) (j := 97) C y71 fw_X10_92 rfl dX10_undo_123 ?_
    refine s_aload_n C dX10_undo_126 rfl ?_
    refine s_getr (k := 11) (j := 80) C y71 fw_X10_40 rfl dX10_undo_127 ?_
    refine s_callSV (st := []) C (c_X10_copyRow l ad 97 80 8 0 0 y97 y80 (by decide) (by decide) (sR (sR (sR (sR (sR (sR (sR (sR (sV (sV (sV σ 71 0 (σ.1 71 22)) 71 8 (σ.1 71 30)) 71 10 (σ.1 71 32)) 72 (σ.1 89)) 73 (σ.1 90)) 74 (σ.1 91)) 75 (σ.1 92)) 76 (σ.1 93)) 77 (σ.1 94)) 78 (σ.1 95)) 79 (σ.1 96))) cv_X10_364 rfl rfl ⟨by decide, by decide⟩ (Nat.le_of_ble_eq_true rfl) dX10_undo_130 ?_
    intro τ27 h28
    replace h28 : τ27 = (sR (sR (sR (sR (sR (sR (sR (sR (sR (sV (sV (sV σ 71 0 (σ.1 71 22)) 71 8 (σ.1 71 30)) 71 10 (σ.1 71 32)) 72 (σ.1 89)) 73 (σ.1 90)) 74 (σ.1 91)) 75 (σ.1 92)) 76 (σ.1 93)) 77 (σ.1 94)) 78 (σ.1 95)) 79 (σ.1 96)) 80 (σ.1 97)) := h28; replace h28 := h28.symm; subst h28
    refine s_aload_n C dX10_undo_133 rfl ?_
    refine s_getr (k := 34) (j := 98) C y71 fw_X10_95 rfl dX10_undo_134 ?_
    refine s_aload_n C dX10_undo_137 rfl ?_
    refine s_getr (k := 12) (j := 81) C y71 fw_X10_43 rfl dX10_undo_138 ?_
    refine s_callSV (st := []) C (c_X10_copyRow l ad 98 81 8 0 0 y98 y81 (by decide) (by decide) (sR (sR (sR (sR (sR (sR (sR (sR (sR (sV (sV (sV σ 71 0 (σ.1 71 22)) 71 8 (σ.1 71 30)) 71 10 (σ.1 71 32)) 72 (σ.1 89)) 73 (σ.1 90)) 74 (σ.1 91)) 75 (σ.1 92)) 76 (σ.1 93)) 77 (σ.1 94)) 78 (σ.1 95)) 79 (σ.1 96)) 80 (σ.1 97))) cv_X10_364 rfl rfl ⟨by decide, by decide⟩ (Nat.le_of_ble_eq_true rfl) dX10_undo_141 ?_
    intro τ30 h31
    replace h31 : τ30 = (sR (sR (sR (sR (sR (sR (sR (sR (sR (sR (sV (sV (sV σ 71 0 (σ.1 71 22)) 71 8 (σ.1 71 30)) 71 10 (σ.1 71 32)) 72 (σ.1 89)) 73 (σ.1 90)) 74 (σ.1 91)) 75 (σ.1 92)) 76 (σ.1 93)) 77 (σ.1 94)) 78 (σ.1 95)) 79 (σ.1 96)) 80 (σ.1 97)) 81 (σ.1 98)) := h31; replace h31 := h31.symm; subst h31
    refine s_aload_n C dX10_undo_144 rfl ?_
    refine s_getr (k := 35) (j := 99) C y71 fw_X10_98 rfl dX10_undo_145 ?_
    refine s_aload_n C dX10_undo_148 rfl ?_
    refine s_getr (k := 13) (j := 82) C y71 fw_X10_46 rfl dX10_undo_149 ?_
    refine s_callSV (st := []) C (c_X10_copyRow l ad 99 82 8 0 0 y99 y82 (by decide) (by decide) (sR (sR (sR (sR (sR (sR (sR (sR (sR (sR (sV (sV (sV σ 71 0 (σ.1 71 22)) 71 8 (σ.1 71 30)) 71 10 (σ.1 71 32)) 72 (σ.1 89)) 73 (σ.1 90)) 74 (σ.1 91)) 75 (σ.1 92)) 76 (σ.1 93)) 77 (σ.1 94)) 78 (σ.1 95)) 79 (σ.1 96)) 80 (σ.1 97)) 81 (σ.1 98))) cv_X10_364 rfl rfl ⟨by decide, by decide⟩ (Nat.le_of_ble_eq_true rfl) dX10_undo_152 ?_
    intro τ33 h34
    replace h34 : τ33 = (sR (sR (sR (sR (sR (sR (sR (sR (sR (sR (sR (sV (sV (sV σ 71 0 (σ.1 71 22)) 71 8 (σ.1 71 30)) 71 10 (σ.1 71 32)) 72 (σ.1 89)) 73 (σ.1 90)) 74 (σ.1 91)) 75 (σ.1 92)) 76 (σ.1 93)) 77 (σ.1 94)) 78 (σ.1 95)) 79 (σ.1 96)) 80 (σ.1 97)) 81 (σ.1 98)) 82 (σ.1 99)) := h34; replace h34 := h34.symm; subst h34
    refine s_aload_n C dX10_undo_155 rfl ?_
    refine s_getr (k := 36) (j := 100) C y71 fw_X10_101 rfl dX10_undo_156 ?_
    refine s_aload_n C dX10_undo_159 rfl ?_
    refine s_getr (k := 14) (j := 83) C y71 fw_X10_49 rfl dX10_undo_160 ?_
    refine s_callSV (st := []) C (c_X10_copyRow l ad 100 83 8 0 0 y100 y83 (by decide) (by decide) (sR (sR (sR (sR (sR (sR (sR (sR (sR (sR (sR (sV (sV (sV σ 71 0 (σ.1 71 22)) 71 8 (σ.1 71 30)) 71 10 (σ.1 71 32)) 72 (σ.1 89)) 73 (σ.1 90)) 74 (σ.1 91)) 75 (σ.1 92)) 76 (σ.1 93)) 77 (σ.1 94)) 78 (σ.1 95)) 79 (σ.1 96)) 80 (σ.1 97)) 81 (σ.1 98)) 82 (σ.1 99))) cv_X10_364 rfl rfl ⟨by decide, by decide⟩ (Nat.le_of_ble_eq_true rfl) dX10_undo_163 ?_
    intro τ36 h37
    replace h37 : τ36 = (sR (sR (sR (sR (sR (sR (sR (sR (sR (sR (sR (sR (sV (sV (sV σ 71 0 (σ.1 71 22)) 71 8 (σ.1 71 30)) 71 10 (σ.1 71 32)) 72 (σ.1 89)) 73 (σ.1 90)) 74 (σ.1 91)) 75 (σ.1 92)) 76 (σ.1 93)) 77 (σ.1 94)) 78 (σ.1 95)) 79 (σ.1 96)) 80 (σ.1 97)) 81 (σ.1 98)) 82 (σ.1 99)) 83 (σ.1 100)) := h37; replace h37 := h37.symm; subst h37
    refine s_aload_n C dX10_undo_166 rfl ?_
    refine s_getr (k := 37) (j := 101) C y71 fw_X10_104 rfl dX10_undo_167 ?_
    refine s_aload_n C dX10_undo_170 rfl ?_
    refine s_getr (k := 15) (j := 84) C y71 fw_X10_52 rfl dX10_undo_171 ?_
    refine s_callSV (st := []) C (c_X10_copyRow l ad 101 84 3 0 0 y101 y84 (by decide) (by decide) (sR (sR (sR (sR (sR (sR (sR (sR (sR (sR (sR (sR (sV (sV (sV σ 71 0 (σ.1 71 22)) 71 8 (σ.1 71 30)) 71 10 (σ.1 71 32)) 72 (σ.1 89)) 73 (σ.1 90)) 74 (σ.1 91)) 75 (σ.1 92)) 76 (σ.1 93)) 77 (σ.1 94)) 78 (σ.1 95)) 79 (σ.1 96)) 80 (σ.1 97)) 81 (σ.1 98)) 82 (σ.1 99)) 83 (σ.1 100))) cv_X10_364 rfl rfl ⟨by decide, by decide⟩ (Nat.le_of_ble_eq_true rfl) dX10_undo_174 ?_
    intro τ39 h40
    replace h40 : τ39 = (sR (sR (sR (sR (sR (sR (sR (sR (sR (sR (sR (sR (sR (sV (sV (sV σ 71 0 (σ.1 71 22)) 71 8 (σ.1 71 30)) 71 10 (σ.1 71 32)) 72 (σ.1 89)) 73 (σ.1 90)) 74 (σ.1 91)) 75 (σ.1 92)) 76 (σ.1 93)) 77 (σ.1 94)) 78 (σ.1 95)) 79 (σ.1 96)) 80 (σ.1 97)) 81 (σ.1 98)) 82 (σ.1 99)) 83 (σ.1 100)) 84 (σ.1 101)) := h40; replace h40 := h40.symm; subst h40
    refine s_aload_n C dX10_undo_177 rfl ?_
    refine s_getr (k := 38) (j := 102) C y71 fw_X10_107 rfl dX10_undo_178 ?_
    refine s_aload_n C dX10_undo_181 rfl ?_
    refine s_getr (k := 16) (j := 85) C y71 fw_X10_55 rfl dX10_undo_182 ?_
    refine s_callSV (st := []) C (c_X10_copyRow l ad 102 85 180 0 0 y102 y85 (by decide) (by decide) (sR (sR (sR (sR (sR (sR (sR (sR (sR (sR (sR (sR (sR (sV (sV (sV σ 71 0 (σ.1 71 22)) 71 8 (σ.1 71 30)) 71 10 (σ.1 71 32)) 72 (σ.1 89)) 73 (σ.1 90)) 74 (σ.1 91)) 75 (σ.1 92)) 76 (σ.1 93)) 77 (σ.1 94)) 78 (σ.1 95)) 79 (σ.1 96)) 80 (σ.1 97)) 81 (σ.1 98)) 82 (σ.1 99)) 83 (σ.1 100)) 84 (σ.1 101))) cv_X10_364 rfl rfl ⟨by decide, by decide⟩ (Nat.le_of_ble_eq_true rfl) dX10_undo_185 ?_
    intro τ42 h43
    replace h43 : τ42 = (sR (sR (sR (sR (sR (sR (sR (sR (sR (sR (sR (sR (sR (sR (sV (sV (sV σ 71 0 (σ.1 71 22)) 71 8 (σ.1 71 30)) 71 10 (σ.1 71 32)) 72 (σ.1 89)) 73 (σ.1 90)) 74 (σ.1 91)) 75 (σ.1 92)) 76 (σ.1 93)) 77 (σ.1 94)) 78 (σ.1 95)) 79 (σ.1 96)) 80 (σ.1 97)) 81 (σ.1 98)) 82 (σ.1 99)) 83 (σ.1 100)) 84 (σ.1 101)) 85 (σ.1 102)) := h43; replace h43 := h43.symm; subst h43
    refine s_aload_n C dX10_undo_188 rfl ?_
    refine s_iconst C dX10_undo_189 (by decide) (fun z44 tz44 => ?_)
    refine s_putz (k := 39) C y71 fw_X10_181 fp_9_39 rfl (by omega) dX10_undo_190 ?_
    refine s_aload_n C dX10_undo_193 rfl ?_
    refine s_get (k := 8) (x := (σ.1 71 30)) C y71 fw_X10_175 rfl rfl dX10_undo_194 ?_
    exact s_iret C X dX10_undo_197 ⟨(by have hg := hI.2.2.2.2.2.2 (by omega); exact ⟨hg.1, hg.2.1, hI.2.2.1, hI.2.2.2.1, hg.2.2, cu_off hI.2.2.2.2.2.1 (by show Int32.toInt z44 = 0; omega), hI.2.2.2.2.2.2⟩), (Fr.sV (Fr.sR (Fr.sR (Fr.sR (Fr.sR (Fr.sR (Fr.sR (Fr.sR (Fr.sR (Fr.sR (Fr.sR (Fr.sR (Fr.sR (Fr.sR (Fr.sR (Fr.sV (Fr.sV (Fr.sV Fr.rf (Or.inr (by decide))) (Or.inr (by decide))) (Or.inr (by decide))) (by decide)) (by decide)) (by decide)) (by decide)) (by decide)) (by decide)) (by decide)) (by decide)) (by decide)) (by decide)) (by decide)) (by decide)) (by decide)) (by decide)) (Or.inr (by decide)))⟩
  · refine s_bipush C dX10_undo_7 (by decide) (fun z45 tz45 => ?_)
    exact s_iret C X dX10_undo_9 ⟨hI, Fr.rf⟩
