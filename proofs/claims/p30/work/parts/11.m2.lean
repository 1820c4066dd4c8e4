theorem tx_forget {pr : Int32} {tm tx : Nat → Int32} {k : Nat} {z : Int32} (h : TX pr tm tx) (hz : z.toInt = 0) : TX pr (upd tm k z) tx := by
  intro c
  by_cases e : c = k
  · rw [e, pk_us]; exact ⟨by omega, fun _ q => by omega⟩
  · rw [pk_un e]; exact h c
set_option maxRecDepth 100000 in
theorem c_X10_eventOf (l : Launch) (ad : Nat → Nat) (σ : Sg) (p : Int32) (k : Int32) (what : Int32) (hI : IM σ.1) : Mt l yX10_eventOf cX10_eventOf 5 (some .int) 3 ad σ [.ref (ad 71), .int p, .int k, .int what] (oI (fun r τ => τ = σ ∧ True)) := by
  have hpr := hI.pr
  have htot := hI.tot
  have hms := hI.ms
  have htp := hI.tp
  refine Mt_intro (by decide +kernel) (by simp [lg_sl, Value.category]) (fun E C X => ?_)
  show WP E ad 0 [some (.ref (ad 71)), some (.int p), some (.int k), some (.int what), none] [] σ
  refine s_aload_n C dX10_eventOf_0 rfl ?_
  refine s_iload_n C dX10_eventOf_1 rfl ?_
  refine s_iload_n C dX10_eventOf_2 rfl ?_
  refine s_callVI (st := []) C (c_X10_isEvent l ad σ p k (by omega)) cv_X10_202 y71 rfl rfl rfl ⟨by decide, by decide⟩ (Nat.le_of_ble_eq_true rfl) dX10_eventOf_3 ?_
  intro r1 τ2 h3
  obtain ⟨eh3, h3⟩ := h3; replace eh3 := eh3.symm; subst eh3
  have bv1 := hI.ev p.toNatClampNeg
  refine s_if_eq (tgt := 21) C dX10_eventOf_6 (by decide) (fun q4 => ?_) (fun q4 => ?_)
  · refine s_iconst C dX10_eventOf_21 (by decide) (fun z5 tz5 => ?_)
    exact s_iret C X dX10_eventOf_22 ⟨rfl, trivial⟩
  · refine s_iload_n C dX10_eventOf_9 rfl ?_
    refine s_i2l C dX10_eventOf_10 (fun L6 tL6 => ?_)
    refine s_lconst C dX10_eventOf_11 rfl (fun L7 tL7 => ?_)
    have tL7 : L7.toInt = 0 := tL7
    obtain ⟨L8, eL8⟩ : ∃ q : Int64, q = 3 := ⟨_, rfl⟩
    have tL8 : L8.toInt = 3 := by rw [eL8]; rfl
    refine s_ldc2 (v := L8) C dX10_eventOf_12 (by rw [eL8]; exact mw 1230 (by decide +kernel) rfl) ?_
    refine s_callSI (st := []) C (c_X10_in l ad σ L6 L7 L8 ) cv_X10_165 rfl rfl ⟨by decide, by decide⟩ (Nat.le_of_ble_eq_true rfl) dX10_eventOf_15 ?_
    intro r9 τ10 h11
    obtain ⟨eh11, h11⟩ := h11; replace eh11 := eh11.symm; subst eh11
    refine s_if_ne (tgt := 23) C dX10_eventOf_18 (by decide) (fun q12 => ?_) (fun q12 => ?_)
    · refine s_iload_n C dX10_eventOf_23 rfl ?_
      refine s_iload_n C dX10_eventOf_24 rfl ?_
      refine s_callSI (st := []) C (c_X10_at l ad σ p k (by omega) (by omega)) cv_X10_189 rfl rfl ⟨by decide, by decide⟩ (Nat.le_of_ble_eq_true rfl) dX10_eventOf_25 ?_
      intro r13 τ14 h15
      obtain ⟨eh15, h15⟩ := h15; replace eh15 := eh15.symm; subst eh15
      refine s_istore C dX10_eventOf_28 (by decide) (Nat.le_of_ble_eq_true rfl) rfl ?_
      show WP E ad 30 [some (.ref (ad 71)), some (.int p), some (.int k), some (.int what), some (.int r13)] [] σ
      refine s_iload_n C dX10_eventOf_30 rfl ?_
      refine s_if_ne (tgt := 44) C dX10_eventOf_31 (by decide) (fun q16 => ?_) (fun q16 => ?_)
      · refine s_iload_n C dX10_eventOf_44 rfl ?_
        refine s_iconst C dX10_eventOf_45 (by decide) (fun z17 tz17 => ?_)
        refine s_icmp_ne (tgt := 62) C dX10_eventOf_46 (by decide) (fun q18 => ?_) (fun q18 => ?_)
        · refine s_iload_n C dX10_eventOf_62 rfl ?_
          refine s_iconst C dX10_eventOf_63 (by decide) (fun z19 tz19 => ?_)
          refine s_icmp_ne (tgt := 77) C dX10_eventOf_64 (by decide) (fun q20 => ?_) (fun q20 => ?_)
          · refine s_aload_n C dX10_eventOf_77 rfl ?_
            refine s_getr (k := 6) (j := 77) C y71 fw_X10_31 rfl dX10_eventOf_78 ?_
            refine s_iload C dX10_eventOf_81 rfl ?_
            refine s_iald (r := (σ.1 77 r13.toNatClampNeg)) C y77 (by omega) rfl dX10_eventOf_83 ?_
            exact s_iret C X dX10_eventOf_84 ⟨rfl, trivial⟩
          · refine s_aload_n C dX10_eventOf_67 rfl ?_
            refine s_getr (k := 5) (j := 76) C y71 fw_X10_28 rfl dX10_eventOf_68 ?_
            refine s_iload C dX10_eventOf_71 rfl ?_
            refine s_iald (r := (σ.1 76 r13.toNatClampNeg)) C y76 (by omega) rfl dX10_eventOf_73 ?_
            refine s_goto (tgt := 84) C dX10_eventOf_74 (by decide) ?_
            exact s_iret C X dX10_eventOf_84 ⟨rfl, trivial⟩
        · refine s_aload_n C dX10_eventOf_49 rfl ?_
          refine s_getr (k := 4) (j := 75) C y71 fw_X10_25 rfl dX10_eventOf_50 ?_
          refine s_iload C dX10_eventOf_53 rfl ?_
          refine s_iald (r := (σ.1 75 r13.toNatClampNeg)) C y75 (by omega) rfl dX10_eventOf_55 ?_
          refine s_bipush C dX10_eventOf_56 (by decide) (fun z21 tz21 => ?_)
          refine s_iaddU C dX10_eventOf_58 (fun z22 tz22 => ?_)
          refine s_goto (tgt := 84) C dX10_eventOf_59 (by decide) ?_
          exact s_iret C X dX10_eventOf_84 ⟨rfl, trivial⟩
      · refine s_aload_n C dX10_eventOf_34 rfl ?_
        refine s_getr (k := 3) (j := 74) C y71 fw_X10_22 rfl dX10_eventOf_35 ?_
        refine s_iload C dX10_eventOf_38 rfl ?_
        refine s_iald (r := (σ.1 74 r13.toNatClampNeg)) C y74 (by omega) rfl dX10_eventOf_40 ?_
        refine s_goto (tgt := 84) C dX10_eventOf_41 (by decide) ?_
        exact s_iret C X dX10_eventOf_84 ⟨rfl, trivial⟩
    · refine s_iconst C dX10_eventOf_21 (by decide) (fun z23 tz23 => ?_)
      exact s_iret C X dX10_eventOf_22 ⟨rfl, trivial⟩
set_option maxRecDepth 100000 in
theorem c_X10_clock (l : Launch) (ad : Nat → Nat) (σ : Sg) (p : Int32) (k : Int32) (q : Int32) (hI : IM σ.1) : Mt l yX10_clock cX10_clock 4 (some .int) 3 ad σ [.ref (ad 71), .int p, .int k, .int q] (oI (fun r τ => τ = σ ∧ True)) := by
  have hpr := hI.pr
  have htot := hI.tot
  have hms := hI.ms
  have htp := hI.tp
  refine Mt_intro (by decide +kernel) (by simp [lg_sl, Value.category]) (fun E C X => ?_)
  show WP E ad 0 [some (.ref (ad 71)), some (.int p), some (.int k), some (.int q)] [] σ
  refine s_aload_n C dX10_clock_0 rfl ?_
  refine s_iload_n C dX10_clock_1 rfl ?_
  refine s_iload_n C dX10_clock_2 rfl ?_
  refine s_callVI (st := []) C (c_X10_isEvent l ad σ p k (by omega)) cv_X10_202 y71 rfl rfl rfl ⟨by decide, by decide⟩ (Nat.le_of_ble_eq_true rfl) dX10_clock_3 ?_
  intro r1 τ2 h3
  obtain ⟨eh3, h3⟩ := h3; replace eh3 := eh3.symm; subst eh3
  have bv2 := hI.ev p.toNatClampNeg
  refine s_if_eq (tgt := 34) C dX10_clock_6 (by decide) (fun q4 => ?_) (fun q4 => ?_)
  · refine s_iconst C dX10_clock_34 (by decide) (fun z5 tz5 => ?_)
    exact s_iret C X dX10_clock_35 ⟨rfl, trivial⟩
  · refine s_aload_n C dX10_clock_9 rfl ?_
    refine s_iload_n C dX10_clock_10 rfl ?_
    refine s_callVI (st := []) C (c_X10_isProcess l ad σ q (by omega)) cv_X10_169 y71 rfl rfl rfl ⟨by decide, by decide⟩ (Nat.le_of_ble_eq_true rfl) dX10_clock_11 ?_
    intro r6 τ7 h8
    obtain ⟨eh8, h8⟩ := h8; replace eh8 := eh8.symm; subst eh8
    refine s_if_eq (tgt := 34) C dX10_clock_14 (by decide) (fun q9 => ?_) (fun q9 => ?_)
    · refine s_iconst C dX10_clock_34 (by decide) (fun z10 tz10 => ?_)
      exact s_iret C X dX10_clock_35 ⟨rfl, trivial⟩
    · refine s_aload_n C dX10_clock_17 rfl ?_
      refine s_getr (k := 7) (j := 78) C y71 fw_X10_34 rfl dX10_clock_18 ?_
      refine s_iconst C dX10_clock_21 (by decide) (fun z11 tz11 => ?_)
      refine s_iload_n C dX10_clock_22 rfl ?_
      refine s_iload_n C dX10_clock_23 rfl ?_
      refine s_callSI (st := [.int z11, .ref (ad 78)]) C (c_X10_at l ad σ p k (by omega) (by omega)) cv_X10_189 rfl rfl ⟨by decide, by decide⟩ (Nat.le_of_ble_eq_true rfl) dX10_clock_24 ?_
      intro r12 τ13 h14
      obtain ⟨eh14, h14⟩ := h14; replace eh14 := eh14.symm; subst eh14
      refine s_imulL C tz11 dX10_clock_27 (by omega) (fun z15 tz15 => ?_)
      refine s_iload_n C dX10_clock_28 rfl ?_
      refine s_iadd C dX10_clock_29 (by omega) (fun z16 tz16 => ?_)
      refine s_iald (r := (σ.1 78 z16.toNatClampNeg)) C y78 (by omega) rfl dX10_clock_30 ?_
      have b17 := hI.ck z16.toNatClampNeg
      refine s_goto (tgt := 35) C dX10_clock_31 (by decide) ?_
      exact s_iret C X dX10_clock_35 ⟨rfl, trivial⟩
set_option maxRecDepth 100000 in
theorem c_X10_ahead (l : Launch) (ad : Nat → Nat) (σ : Sg) (p : Int32) (k : Int32) (q : Int32) (j : Int32) (hI : IM σ.1) : Mt l yX10_ahead cX10_ahead 5 (some .int) 3 ad σ [.ref (ad 71), .int p, .int k, .int q, .int j] (oI (fun r τ => τ = σ ∧ True)) := by
  have hpr := hI.pr
  have htot := hI.tot
  have hms := hI.ms
  have htp := hI.tp
  refine Mt_intro (by decide +kernel) (by simp [lg_sl, Value.category]) (fun E C X => ?_)
  show WP E ad 0 [some (.ref (ad 71)), some (.int p), some (.int k), some (.int q), some (.int j)] [] σ
  refine s_aload_n C dX10_ahead_0 rfl ?_
  refine s_iload_n C dX10_ahead_1 rfl ?_
  refine s_iload_n C dX10_ahead_2 rfl ?_
  refine s_callVI (st := []) C (c_X10_isEvent l ad σ p k (by omega)) cv_X10_202 y71 rfl rfl rfl ⟨by decide, by decide⟩ (Nat.le_of_ble_eq_true rfl) dX10_ahead_3 ?_
  intro r1 τ2 h3
  obtain ⟨eh3, h3⟩ := h3; replace eh3 := eh3.symm; subst eh3
  have bv3 := hI.ev p.toNatClampNeg
  refine s_if_eq (tgt := 19) C dX10_ahead_6 (by decide) (fun q4 => ?_) (fun q4 => ?_)
  · refine s_iconst C dX10_ahead_19 (by decide) (fun z5 tz5 => ?_)
    exact s_iret C X dX10_ahead_20 ⟨rfl, trivial⟩
  · refine s_aload_n C dX10_ahead_9 rfl ?_
    refine s_iload_n C dX10_ahead_10 rfl ?_
    refine s_iload C dX10_ahead_11 rfl ?_
    refine s_callVI (st := []) C (c_X10_isEvent l ad σ q j (by omega)) cv_X10_202 y71 rfl rfl rfl ⟨by decide, by decide⟩ (Nat.le_of_ble_eq_true rfl) dX10_ahead_13 ?_
    intro r6 τ7 h8
    obtain ⟨eh8, h8⟩ := h8; replace eh8 := eh8.symm; subst eh8
    have bv4 := hI.ev q.toNatClampNeg
    refine s_if_ne (tgt := 21) C dX10_ahead_16 (by decide) (fun q9 => ?_) (fun q9 => ?_)
    · refine s_iload_n C dX10_ahead_21 rfl ?_
      refine s_iload_n C dX10_ahead_22 rfl ?_
      refine s_icmp_ne (tgt := 34) C dX10_ahead_23 (by decide) (fun q10 => ?_) (fun q10 => ?_)
      · refine s_aload_n C dX10_ahead_34 rfl ?_
        refine s_getr (k := 7) (j := 78) C y71 fw_X10_34 rfl dX10_ahead_35 ?_
        refine s_iconst C dX10_ahead_38 (by decide) (fun z11 tz11 => ?_)
        refine s_iload_n C dX10_ahead_39 rfl ?_
        refine s_iload C dX10_ahead_40 rfl ?_
        refine s_callSI (st := [.int z11, .ref (ad 78)]) C (c_X10_at l ad σ q j (by omega) (by omega)) cv_X10_189 rfl rfl ⟨by decide, by decide⟩ (Nat.le_of_ble_eq_true rfl) dX10_ahead_42 ?_
        intro r12 τ13 h14
        obtain ⟨eh14, h14⟩ := h14; replace eh14 := eh14.symm; subst eh14
        refine s_imulL C tz11 dX10_ahead_45 (by omega) (fun z15 tz15 => ?_)
        refine s_iload_n C dX10_ahead_46 rfl ?_
        refine s_iadd C dX10_ahead_47 (by omega) (fun z16 tz16 => ?_)
        refine s_iald (r := (σ.1 78 z16.toNatClampNeg)) C y78 (by omega) rfl dX10_ahead_48 ?_
        have b17 := hI.ck z16.toNatClampNeg
        refine s_iload_n C dX10_ahead_49 rfl ?_
        refine s_icmp_lt (tgt := 57) C dX10_ahead_50 (by decide) (fun q18 => ?_) (fun q18 => ?_)
        · refine s_aload_n C dX10_ahead_57 rfl ?_
          refine s_getr (k := 7) (j := 78) C y71 fw_X10_34 rfl dX10_ahead_58 ?_
          refine s_iconst C dX10_ahead_61 (by decide) (fun z19 tz19 => ?_)
          refine s_iload_n C dX10_ahead_62 rfl ?_
          refine s_iload_n C dX10_ahead_63 rfl ?_
          refine s_callSI (st := [.int z19, .ref (ad 78)]) C (c_X10_at l ad σ p k (by omega) (by omega)) cv_X10_189 rfl rfl ⟨by decide, by decide⟩ (Nat.le_of_ble_eq_true rfl) dX10_ahead_64 ?_
          intro r20 τ21 h22
          obtain ⟨eh22, h22⟩ := h22; replace eh22 := eh22.symm; subst eh22
          refine s_imulL C tz19 dX10_ahead_67 (by omega) (fun z23 tz23 => ?_)
          refine s_iload_n C dX10_ahead_68 rfl ?_
          refine s_iadd C dX10_ahead_69 (by omega) (fun z24 tz24 => ?_)
          refine s_iald (r := (σ.1 78 z24.toNatClampNeg)) C y78 (by omega) rfl dX10_ahead_70 ?_
          have b25 := hI.ck z24.toNatClampNeg
          refine s_iload C dX10_ahead_71 rfl ?_
          refine s_icmp_lt (tgt := 80) C dX10_ahead_73 (by decide) (fun q26 => ?_) (fun q26 => ?_)
          · refine s_iconst C dX10_ahead_80 (by decide) (fun z27 tz27 => ?_)
            exact s_iret C X dX10_ahead_81 ⟨rfl, trivial⟩
          · refine s_iconst C dX10_ahead_76 (by decide) (fun z28 tz28 => ?_)
            refine s_goto (tgt := 81) C dX10_ahead_77 (by decide) ?_
            exact s_iret C X dX10_ahead_81 ⟨rfl, trivial⟩
        · refine s_iconst C dX10_ahead_53 (by decide) (fun z29 tz29 => ?_)
          refine s_goto (tgt := 81) C dX10_ahead_54 (by decide) ?_
          exact s_iret C X dX10_ahead_81 ⟨rfl, trivial⟩
      · refine s_iload_n C dX10_ahead_26 rfl ?_
        refine s_iload C dX10_ahead_27 rfl ?_
        refine s_icmp_ne (tgt := 34) C dX10_ahead_29 (by decide) (fun q30 => ?_) (fun q30 => ?_)
        · refine s_aload_n C dX10_ahead_34 rfl ?_
          refine s_getr (k := 7) (j := 78) C y71 fw_X10_34 rfl dX10_ahead_35 ?_
          refine s_iconst C dX10_ahead_38 (by decide) (fun z31 tz31 => ?_)
          refine s_iload_n C dX10_ahead_39 rfl ?_
          refine s_iload C dX10_ahead_40 rfl ?_
          refine s_callSI (st := [.int z31, .ref (ad 78)]) C (c_X10_at l ad σ q j (by omega) (by omega)) cv_X10_189 rfl rfl ⟨by decide, by decide⟩ (Nat.le_of_ble_eq_true rfl) dX10_ahead_42 ?_
          intro r32 τ33 h34
          obtain ⟨eh34, h34⟩ := h34; replace eh34 := eh34.symm; subst eh34
          refine s_imulL C tz31 dX10_ahead_45 (by omega) (fun z35 tz35 => ?_)
          refine s_iload_n C dX10_ahead_46 rfl ?_
          refine s_iadd C dX10_ahead_47 (by omega) (fun z36 tz36 => ?_)
          refine s_iald (r := (σ.1 78 z36.toNatClampNeg)) C y78 (by omega) rfl dX10_ahead_48 ?_
          have b37 := hI.ck z36.toNatClampNeg
          refine s_iload_n C dX10_ahead_49 rfl ?_
          refine s_icmp_lt (tgt := 57) C dX10_ahead_50 (by decide) (fun q38 => ?_) (fun q38 => ?_)
          · refine s_aload_n C dX10_ahead_57 rfl ?_
            refine s_getr (k := 7) (j := 78) C y71 fw_X10_34 rfl dX10_ahead_58 ?_
            refine s_iconst C dX10_ahead_61 (by decide) (fun z39 tz39 => ?_)
            refine s_iload_n C dX10_ahead_62 rfl ?_
            refine s_iload_n C dX10_ahead_63 rfl ?_
            refine s_callSI (st := [.int z39, .ref (ad 78)]) C (c_X10_at l ad σ p k (by omega) (by omega)) cv_X10_189 rfl rfl ⟨by decide, by decide⟩ (Nat.le_of_ble_eq_true rfl) dX10_ahead_64 ?_
            intro r40 τ41 h42
            obtain ⟨eh42, h42⟩ := h42; replace eh42 := eh42.symm; subst eh42
            refine s_imulL C tz39 dX10_ahead_67 (by omega) (fun z43 tz43 => ?_)
            refine s_iload_n C dX10_ahead_68 rfl ?_
            refine s_iadd C dX10_ahead_69 (by omega) (fun z44 tz44 => ?_)
            refine s_iald (r := (σ.1 78 z44.toNatClampNeg)) C y78 (by omega) rfl dX10_ahead_70 ?_
            have b45 := hI.ck z44.toNatClampNeg
            refine s_iload C dX10_ahead_71 rfl ?_
            refine s_icmp_lt (tgt := 80) C dX10_ahead_73 (by decide) (fun q46 => ?_) (fun q46 => ?_)
            · refine s_iconst C dX10_ahead_80 (by decide) (fun z47 tz47 => ?_)
              exact s_iret C X dX10_ahead_81 ⟨rfl, trivial⟩
            · refine s_iconst C dX10_ahead_76 (by decide) (fun z48 tz48 => ?_)
              refine s_goto (tgt := 81) C dX10_ahead_77 (by decide) ?_
              exact s_iret C X dX10_ahead_81 ⟨rfl, trivial⟩
          · refine s_iconst C dX10_ahead_53 (by decide) (fun z49 tz49 => ?_)
            refine s_goto (tgt := 81) C dX10_ahead_54 (by decide) ?_
            exact s_iret C X dX10_ahead_81 ⟨rfl, trivial⟩
        · refine s_iconst C dX10_ahead_32 (by decide) (fun z50 tz50 => ?_)
          exact s_iret C X dX10_ahead_33 ⟨rfl, trivial⟩
    · refine s_iconst C dX10_ahead_19 (by decide) (fun z51 tz51 => ?_)
      exact s_iret C X dX10_ahead_20 ⟨rfl, trivial⟩
set_option maxRecDepth 100000 in
theorem c_X10_message (l : Launch) (ad : Nat → Nat) (σ : Sg) (m : Int32) (what : Int32) (hI : IM σ.1) : Mt l yX10_message cX10_message 3 (some .int) 2 ad σ [.ref (ad 71), .int m, .int what] (oI (fun r τ => τ = σ ∧ True)) := by
  have hpr := hI.pr
  have htot := hI.tot
  have hms := hI.ms
  have htp := hI.tp
  refine Mt_intro (by decide +kernel) (by simp [lg_sl, Value.category]) (fun E C X => ?_)
  show WP E ad 0 [some (.ref (ad 71)), some (.int m), some (.int what)] [] σ
  refine s_iload_n C dX10_message_0 rfl ?_
  refine s_i2l C dX10_message_1 (fun L1 tL1 => ?_)
  refine s_lconst C dX10_message_2 rfl (fun L2 tL2 => ?_)
  have tL2 : L2.toInt = 0 := tL2
  refine s_aload_n C dX10_message_3 rfl ?_
  refine s_get (k := 10) (x := (σ.1 71 10)) C y71 fw_X10_178 rfl rfl dX10_message_4 ?_
  refine s_iconst C dX10_message_7 (by decide) (fun z3 tz3 => ?_)
  refine s_isub C dX10_message_8 (by omega) (fun z4 tz4 => ?_)
  refine s_i2l C dX10_message_9 (fun L5 tL5 => ?_)
  refine s_callSI (st := []) C (c_X10_in l ad σ L1 L2 L5 ) cv_X10_165 rfl rfl ⟨by decide, by decide⟩ (Nat.le_of_ble_eq_true rfl) dX10_message_10 ?_
  intro r6 τ7 h8
  obtain ⟨eh8, h8⟩ := h8; replace eh8 := eh8.symm; subst eh8
  refine s_if_eq (tgt := 28) C dX10_message_13 (by decide) (fun q9 => ?_) (fun q9 => ?_)
  · refine s_iconst C dX10_message_28 (by decide) (fun z10 tz10 => ?_)
    exact s_iret C X dX10_message_29 ⟨rfl, trivial⟩
  · refine s_iload_n C dX10_message_16 rfl ?_
    refine s_i2l C dX10_message_17 (fun L11 tL11 => ?_)
    refine s_lconst C dX10_message_18 rfl (fun L12 tL12 => ?_)
    have tL12 : L12.toInt = 0 := tL12
    obtain ⟨L13, eL13⟩ : ∃ q : Int64, q = 3 := ⟨_, rfl⟩
    have tL13 : L13.toInt = 3 := by rw [eL13]; rfl
    refine s_ldc2 (v := L13) C dX10_message_19 (by rw [eL13]; exact mw 1230 (by decide +kernel) rfl) ?_
    refine s_callSI (st := []) C (c_X10_in l ad σ L11 L12 L13 ) cv_X10_165 rfl rfl ⟨by decide, by decide⟩ (Nat.le_of_ble_eq_true rfl) dX10_message_22 ?_
    intro r14 τ15 h16
    obtain ⟨eh16, h16⟩ := h16; replace eh16 := eh16.symm; subst eh16
    refine s_if_ne (tgt := 30) C dX10_message_25 (by decide) (fun q17 => ?_) (fun q17 => ?_)
    · refine s_iload_n C dX10_message_30 rfl ?_
      refine s_if_ne (tgt := 43) C dX10_message_31 (by decide) (fun q18 => ?_) (fun q18 => ?_)
      · refine s_iload_n C dX10_message_43 rfl ?_
        refine s_iconst C dX10_message_44 (by decide) (fun z19 tz19 => ?_)
        refine s_icmp_ne (tgt := 57) C dX10_message_45 (by decide) (fun q20 => ?_) (fun q20 => ?_)
        · refine s_iload_n C dX10_message_57 rfl ?_
          refine s_iconst C dX10_message_58 (by decide) (fun z21 tz21 => ?_)
          refine s_icmp_ne (tgt := 71) C dX10_message_59 (by decide) (fun q22 => ?_) (fun q22 => ?_)
          · refine s_aload_n C dX10_message_71 rfl ?_
            refine s_getr (k := 14) (j := 83) C y71 fw_X10_49 rfl dX10_message_72 ?_
            refine s_iload_n C dX10_message_75 rfl ?_
            refine s_iald (r := (σ.1 83 m.toNatClampNeg)) C y83 (by omega) rfl dX10_message_76 ?_
            exact s_iret C X dX10_message_77 ⟨rfl, trivial⟩
          · refine s_aload_n C dX10_message_62 rfl ?_
            refine s_getr (k := 13) (j := 82) C y71 fw_X10_46 rfl dX10_message_63 ?_
            refine s_iload_n C dX10_message_66 rfl ?_
            refine s_iald (r := (σ.1 82 m.toNatClampNeg)) C y82 (by omega) rfl dX10_message_67 ?_
            have b23 := hI.tk m.toNatClampNeg
            refine s_goto (tgt := 77) C dX10_message_68 (by decide) ?_
            exact s_iret C X dX10_message_77 ⟨rfl, trivial⟩
        · refine s_aload_n C dX10_message_48 rfl ?_
          refine s_getr (k := 12) (j := 81) C y71 fw_X10_43 rfl dX10_message_49 ?_
          refine s_iload_n C dX10_message_52 rfl ?_
          refine s_iald (r := (σ.1 81 m.toNatClampNeg)) C y81 (by omega) rfl dX10_message_53 ?_
          refine s_goto (tgt := 77) C dX10_message_54 (by decide) ?_
          exact s_iret C X dX10_message_77 ⟨rfl, trivial⟩
      · refine s_aload_n C dX10_message_34 rfl ?_
        refine s_getr (k := 11) (j := 80) C y71 fw_X10_40 rfl dX10_message_35 ?_
        refine s_iload_n C dX10_message_38 rfl ?_
        refine s_iald (r := (σ.1 80 m.toNatClampNeg)) C y80 (by omega) rfl dX10_message_39 ?_
        have b24 := hI.fp m.toNatClampNeg
        refine s_goto (tgt := 77) C dX10_message_40 (by decide) ?_
        exact s_iret C X dX10_message_77 ⟨rfl, trivial⟩
    · refine s_iconst C dX10_message_28 (by decide) (fun z25 tz25 => ?_)
      exact s_iret C X dX10_message_29 ⟨rfl, trivial⟩
set_option maxRecDepth 100000 in
theorem c_X10_get (l : Launch) (ad : Nat → Nat) (σ : Sg) (j : Int32) (i : Int32) (hI : IM σ.1) : Mt l yX10_get cX10_get 3 (some .long) 2 ad σ [.ref (ad 71), .int j, .int i] (oL (fun r τ => τ = σ ∧ True)) := by
  have hpr := hI.pr
  have htot := hI.tot
  have hms := hI.ms
  have htp := hI.tp
  refine Mt_intro (by decide +kernel) (by simp [lg_sl, Value.category]) (fun E C X => ?_)
  show WP E ad 0 [some (.ref (ad 71)), some (.int j), some (.int i)] [] σ
  refine s_iload_n C dX10_get_0 rfl ?_
  refine s_callSI (st := []) C (c_X10_isList l ad σ j ) cv_X10_349 rfl rfl ⟨by decide, by decide⟩ (Nat.le_of_ble_eq_true rfl) dX10_get_1 ?_
  intro r1 τ2 h3
  obtain ⟨eh3, h3⟩ := h3; replace eh3 := eh3.symm; subst eh3
  refine s_if_eq (tgt := 39) C dX10_get_4 (by decide) (fun q4 => ?_) (fun q4 => ?_)
  · obtain ⟨L5, eL5⟩ : ∃ q : Int64, q = -9223372036854775808 := ⟨_, rfl⟩
    have tL5 : L5.toInt = -9223372036854775808 := by rw [eL5]; rfl
    refine s_ldc2 (v := L5) C dX10_get_39 (by rw [eL5]; exact mw 1320 (by decide +kernel) rfl) ?_
    exact s_lret C X dX10_get_42 ⟨rfl, trivial⟩
  · refine s_iload_n C dX10_get_7 rfl ?_
    refine s_i2l C dX10_get_8 (fun L6 tL6 => ?_)
    refine s_lconst C dX10_get_9 rfl (fun L7 tL7 => ?_)
    have tL7 : L7.toInt = 0 := tL7
    refine s_aload_n C dX10_get_10 rfl ?_
    refine s_getr (k := 19) (j := 87) C y71 fw_X10_61 rfl dX10_get_11 ?_
    refine s_iload_n C dX10_get_14 rfl ?_
    refine s_iald (r := (σ.1 87 j.toNatClampNeg)) C y87 (by omega) rfl dX10_get_15 ?_
    have b8 := hI.ls j.toNatClampNeg
    refine s_iconst C dX10_get_16 (by decide) (fun z9 tz9 => ?_)
    refine s_isub C dX10_get_17 (by omega) (fun z10 tz10 => ?_)
    refine s_i2l C dX10_get_18 (fun L11 tL11 => ?_)
    refine s_callSI (st := []) C (c_X10_in l ad σ L6 L7 L11 ) cv_X10_165 rfl rfl ⟨by decide, by decide⟩ (Nat.le_of_ble_eq_true rfl) dX10_get_19 ?_
    intro r12 τ13 h14
    obtain ⟨eh14, h14⟩ := h14; replace eh14 := eh14.symm; subst eh14
    refine s_if_eq (tgt := 39) C dX10_get_22 (by decide) (fun q15 => ?_) (fun q15 => ?_)
    · obtain ⟨L16, eL16⟩ : ∃ q : Int64, q = -9223372036854775808 := ⟨_, rfl⟩
      have tL16 : L16.toInt = -9223372036854775808 := by rw [eL16]; rfl
      refine s_ldc2 (v := L16) C dX10_get_39 (by rw [eL16]; exact mw 1320 (by decide +kernel) rfl) ?_
      exact s_lret C X dX10_get_42 ⟨rfl, trivial⟩
    · refine s_aload_n C dX10_get_25 rfl ?_
      refine s_getr (k := 20) (j := 88) C y71 fw_X10_64 rfl dX10_get_26 ?_
      refine s_bipush C dX10_get_29 (by decide) (fun z17 tz17 => ?_)
      refine s_iload_n C dX10_get_31 rfl ?_
      refine s_imulL C tz17 dX10_get_32 (by omega) (fun z18 tz18 => ?_)
      refine s_iload_n C dX10_get_33 rfl ?_
      refine s_iadd C dX10_get_34 (by omega) (fun z19 tz19 => ?_)
      refine s_lald (r := (σ.2 88 z19.toNatClampNeg)) C y88 (by omega) rfl dX10_get_35 ?_
      refine s_goto (tgt := 42) C dX10_get_36 (by decide) ?_
      exact s_lret C X dX10_get_42 ⟨rfl, trivial⟩
set_option maxRecDepth 100000 in
theorem c_X10_wrongCondition (l : Launch) (ad : Nat → Nat) (σ : Sg) (c : Int32) (hI : IM σ.1) : Mt l yX10_wrongCondition cX10_wrongCondition 2 (some .int) 2 ad σ [.ref (ad 71), .int c] (oI (fun r τ => τ = σ ∧ (r.toInt = 0 ∨ r.toInt = -1 ∨ r.toInt = -3) ∧ (r.toInt = 0 ↔ (0 ≤ c.toInt ∧ c.toInt ≤ 2 ∧ 0 < (σ.1 84 c.toNatClampNeg).toInt)))) := by
  have hpr := hI.pr
  have htot := hI.tot
  have hms := hI.ms
  have htp := hI.tp
  refine Mt_intro (by decide +kernel) (by simp [lg_sl, Value.category]) (fun E C X => ?_)
  show WP E ad 0 [some (.ref (ad 71)), some (.int c)] [] σ
  refine s_iload_n C dX10_wrongCondition_0 rfl ?_
  refine s_callSI (st := []) C (c_X10_isCondition l ad σ c ) cv_X10_274 rfl rfl ⟨by decide, by decide⟩ (Nat.le_of_ble_eq_true rfl) dX10_wrongCondition_1 ?_
  intro r1 τ2 h3
  obtain ⟨eh3, h3⟩ := h3; replace eh3 := eh3.symm; subst eh3
  refine s_if_ne (tgt := 11) C dX10_wrongCondition_4 (by decide) (fun q4 => ?_) (fun q4 => ?_)
  · refine s_aload_n C dX10_wrongCondition_11 rfl ?_
    refine s_getr (k := 15) (j := 84) C y71 fw_X10_52 rfl dX10_wrongCondition_12 ?_
    refine s_iload_n C dX10_wrongCondition_15 rfl ?_
    refine s_iald (r := (σ.1 84 c.toNatClampNeg)) C y84 (by omega) rfl dX10_wrongCondition_16 ?_
    have b5 := hI.tm c.toNatClampNeg
    refine s_if_ne (tgt := 25) C dX10_wrongCondition_17 (by decide) (fun q6 => ?_) (fun q6 => ?_)
    · refine s_iconst C dX10_wrongCondition_25 (by decide) (fun z7 tz7 => ?_)
      exact s_iret C X dX10_wrongCondition_26 ⟨rfl, by omega⟩
    · refine s_bipush C dX10_wrongCondition_20 (by decide) (fun z8 tz8 => ?_)
      refine s_goto (tgt := 26) C dX10_wrongCondition_22 (by decide) ?_
      exact s_iret C X dX10_wrongCondition_26 ⟨rfl, by omega⟩
  · refine s_iconst C dX10_wrongCondition_7 (by decide) (fun z9 tz9 => ?_)
    refine s_goto (tgt := 26) C dX10_wrongCondition_8 (by decide) ?_
    exact s_iret C X dX10_wrongCondition_26 ⟨rfl, by omega⟩
set_option maxRecDepth 100000 in
theorem c_X10_start (l : Launch) (ad : Nat → Nat) (σ : Sg) (p : Int32) (v : Int32) (hI : IM σ.1) : Mt l yX10_start cX10_start 4 (some .int) 3 ad σ [.ref (ad 71), .int p, .int v] (oI (fun r τ => IM τ.1 ∧ Fr [72] [] σ τ)) := by
  have hpr := hI.pr
  have htot := hI.tot
  have hms := hI.ms
  have htp := hI.tp
  refine Mt_intro (by decide +kernel) (by simp [lg_sl, Value.category]) (fun E C X => ?_)
  show WP E ad 0 [some (.ref (ad 71)), some (.int p), some (.int v), none] [] σ
  refine s_aload_n C dX10_start_0 rfl ?_
  refine s_iload_n C dX10_start_1 rfl ?_
  refine s_callVI (st := []) C (c_X10_isProcess l ad σ p (by omega)) cv_X10_169 y71 rfl rfl rfl ⟨by decide, by decide⟩ (Nat.le_of_ble_eq_true rfl) dX10_start_2 ?_
  intro r1 τ2 h3
  obtain ⟨eh3, h3⟩ := h3; replace eh3 := eh3.symm; subst eh3
  refine s_if_ne (tgt := 10) C dX10_start_5 (by decide) (fun q4 => ?_) (fun q4 => ?_)
  · refine s_iload_n C dX10_start_10 rfl ?_
    refine s_i2l C dX10_start_11 (fun L5 tL5 => ?_)
    obtain ⟨L6, eL6⟩ : ∃ q : Int64, q = -99 := ⟨_, rfl⟩
    have tL6 : L6.toInt = -99 := by rw [eL6]; rfl
    refine s_ldc2 (v := L6) C dX10_start_12 (by rw [eL6]; exact mw 1194 (by decide +kernel) rfl) ?_
    obtain ⟨L7, eL7⟩ : ∃ q : Int64, q = 99 := ⟨_, rfl⟩
    have tL7 : L7.toInt = 99 := by rw [eL7]; rfl
    refine s_ldc2 (v := L7) C dX10_start_15 (by rw [eL7]; exact mw 1195 (by decide +kernel) rfl) ?_
    refine s_callSI (st := []) C (c_X10_in l ad σ L5 L6 L7 ) cv_X10_165 rfl rfl ⟨by decide, by decide⟩ (Nat.le_of_ble_eq_true rfl) dX10_start_18 ?_
    intro r8 τ9 h10
    obtain ⟨eh10, h10⟩ := h10; replace eh10 := eh10.symm; subst eh10
    refine s_if_ne (tgt := 27) C dX10_start_21 (by decide) (fun q11 => ?_) (fun q11 => ?_)
    · refine s_aload_n C dX10_start_27 rfl ?_
      refine s_getr (k := 1) (j := 72) C y71 fw_X10_15 rfl dX10_start_28 ?_
      refine s_iload_n C dX10_start_31 rfl ?_
      refine s_iald (r := (σ.1 72 p.toNatClampNeg)) C y72 (by omega) rfl dX10_start_32 ?_
      refine s_istore_n C dX10_start_33 (by decide) (Nat.le_of_ble_eq_true rfl) rfl ?_
      show WP E ad 34 [some (.ref (ad 71)), some (.int p), some (.int v), some (.int (σ.1 72 p.toNatClampNeg))] [] σ
      refine s_aload_n C dX10_start_34 rfl ?_
      refine s_getr (k := 1) (j := 72) C y71 fw_X10_15 rfl dX10_start_35 ?_
      refine s_iload_n C dX10_start_38 rfl ?_
      refine s_iload_n C dX10_start_39 rfl ?_
      refine s_iast C y72 (by omega) dX10_start_40 ?_
      refine s_iload_n C dX10_start_41 rfl ?_
      refine s_bipush C dX10_start_42 (by decide) (fun z12 tz12 => ?_)
      refine s_iaddU C dX10_start_44 (fun z13 tz13 => ?_)
      exact s_iret C X dX10_start_45 ⟨hI, (Fr.sV Fr.rf (Or.inl (by decide)))⟩
    · refine s_bipush C dX10_start_24 (by decide) (fun z14 tz14 => ?_)
      exact s_iret C X dX10_start_26 ⟨hI, Fr.rf⟩
  · refine s_iconst C dX10_start_8 (by decide) (fun z15 tz15 => ?_)
    exact s_iret C X dX10_start_9 ⟨hI, Fr.rf⟩
set_option maxRecDepth 100000 in
theorem c_X10_feed (l : Launch) (ad : Nat → Nat) (σ : Sg) (c : Int32) (hI : IM σ.1) : Mt l yX10_feed cX10_feed 2 (some .int) 2 ad σ [.ref (ad 71), .int c] (oI (fun r τ => IM τ.1 ∧ Fr [86] [(71, 17)] σ τ)) := by
  have hpr := hI.pr
  have htot := hI.tot
  have hms := hI.ms
  have htp := hI.tp
  refine Mt_intro (by decide +kernel) (by simp [lg_sl, Value.category]) (fun E C X => ?_)
  show WP E ad 0 [some (.ref (ad 71)), some (.int c)] [] σ
  refine s_iload_n C dX10_feed_0 rfl ?_
  refine s_i2l C dX10_feed_1 (fun L1 tL1 => ?_)
  obtain ⟨L2, eL2⟩ : ∃ q : Int64, q = 32 := ⟨_, rfl⟩
  have tL2 : L2.toInt = 32 := by rw [eL2]; rfl
  refine s_ldc2 (v := L2) C dX10_feed_2 (by rw [eL2]; exact mw 1434 (by decide +kernel) rfl) ?_
  obtain ⟨L3, eL3⟩ : ∃ q : Int64, q = 126 := ⟨_, rfl⟩
  have tL3 : L3.toInt = 126 := by rw [eL3]; rfl
  refine s_ldc2 (v := L3) C dX10_feed_5 (by rw [eL3]; exact mw 1435 (by decide +kernel) rfl) ?_
  refine s_callSI (st := []) C (c_X10_in l ad σ L1 L2 L3 ) cv_X10_165 rfl rfl ⟨by decide, by decide⟩ (Nat.le_of_ble_eq_true rfl) dX10_feed_8 ?_
  intro r4 τ5 h6
  obtain ⟨eh6, h6⟩ := h6; replace eh6 := eh6.symm; subst eh6
  refine s_if_ne (tgt := 17) C dX10_feed_11 (by decide) (fun q7 => ?_) (fun q7 => ?_)
  · refine s_aload_n C dX10_feed_17 rfl ?_
    refine s_get (k := 17) (x := (σ.1 71 17)) C y71 fw_X10_247 rfl rfl dX10_feed_18 ?_
    refine s_bipush C dX10_feed_21 (by decide) (fun z8 tz8 => ?_)
    refine s_icmp_ne (tgt := 29) C dX10_feed_23 (by decide) (fun q9 => ?_) (fun q9 => ?_)
    · refine s_aload_n C dX10_feed_29 rfl ?_
      refine s_getr (k := 18) (j := 86) C y71 fw_X10_58 rfl dX10_feed_30 ?_
      refine s_aload_n C dX10_feed_33 rfl ?_
      refine s_get (k := 17) (x := (σ.1 71 17)) C y71 fw_X10_247 rfl rfl dX10_feed_34 ?_
      refine s_iload_n C dX10_feed_37 rfl ?_
      refine s_iast C y86 (by omega) dX10_feed_38 ?_
      refine s_aload_n C dX10_feed_39 rfl ?_
      refine s_dup C dX10_feed_40 rfl ?_
      refine s_get (k := 17) (x := (σ.1 71 17)) C y71 fw_X10_247 rfl rfl dX10_feed_41 ?_
      refine s_iconst C dX10_feed_44 (by decide) (fun z10 tz10 => ?_)
      refine s_iadd C dX10_feed_45 (by omega) (fun z11 tz11 => ?_)
      refine s_put (k := 17) C y71 fw_X10_247 fp_9_17 rfl dX10_feed_46 ?_
      refine s_aload_n C dX10_feed_49 rfl ?_
      refine s_get (k := 17) (x := z11) C y71 fw_X10_247 rfl rfl dX10_feed_50 ?_
      exact s_iret C X dX10_feed_53 ⟨⟨hI.1, hI.2.1, (by show 0 ≤ z11.toInt ∧ z11.toInt ≤ 60; omega), hI.2.2.2.1, hI.2.2.2.2.1, hI.2.2.2.2.2.1, hI.2.2.2.2.2.2⟩, (Fr.sV (Fr.sV Fr.rf (Or.inl (by decide))) (Or.inr (by decide)))⟩
    · refine s_bipush C dX10_feed_26 (by decide) (fun z12 tz12 => ?_)
      exact s_iret C X dX10_feed_28 ⟨hI, Fr.rf⟩
  · refine s_bipush C dX10_feed_14 (by decide) (fun z13 tz13 => ?_)
    exact s_iret C X dX10_feed_16 ⟨hI, Fr.rf⟩
set_option maxRecDepth 100000 in
theorem c_X10_wipe (l : Launch) (ad : Nat → Nat) (σ : Sg)  (hI : IM σ.1) : Mt l yX10_wipe cX10_wipe 2 (some .int) 0 ad σ [.ref (ad 71)] (oI (fun r τ => IM τ.1 ∧ Fr [] [(71, 17)] σ τ)) := by
  have hpr := hI.pr
  have htot := hI.tot
  have hms := hI.ms
  have htp := hI.tp
  refine Mt_intro (by decide +kernel) (by simp [lg_sl, Value.category]) (fun E C X => ?_)
  show WP E ad 0 [some (.ref (ad 71)), none] [] σ
  refine s_aload_n C dX10_wipe_0 rfl ?_
  refine s_get (k := 17) (x := (σ.1 71 17)) C y71 fw_X10_247 rfl rfl dX10_wipe_1 ?_
  refine s_istore_n C dX10_wipe_4 (by decide) (Nat.le_of_ble_eq_true rfl) rfl ?_
  show WP E ad 5 [some (.ref (ad 71)), some (.int (σ.1 71 17))] [] σ
  refine s_aload_n C dX10_wipe_5 rfl ?_
  refine s_iconst C dX10_wipe_6 (by decide) (fun z1 tz1 => ?_)
  refine s_put (k := 17) C y71 fw_X10_247 fp_9_17 rfl dX10_wipe_7 ?_
  refine s_iload_n C dX10_wipe_10 rfl ?_
  exact s_iret C X dX10_wipe_11 ⟨⟨hI.1, hI.2.1, (by show 0 ≤ z1.toInt ∧ z1.toInt ≤ 60; omega), hI.2.2.2.1, hI.2.2.2.2.1, hI.2.2.2.2.2.1, hI.2.2.2.2.2.2⟩, (Fr.sV Fr.rf (Or.inr (by decide)))⟩
set_option maxRecDepth 100000 in
theorem c_X10_lay (l : Launch) (ad : Nat → Nat) (σ : Sg) (j : Int32) (i : Int32) (v : Int64) (hI : IM σ.1) : Mt l yX10_lay cX10_lay 5 (some .int) 2 ad σ [.ref (ad 71), .int j, .int i, .long v] (oI (fun r τ => IM τ.1 ∧ Fr [88] [] σ τ)) := by
  have hpr := hI.pr
  have htot := hI.tot
  have hms := hI.ms
  have htp := hI.tp
  refine Mt_intro (by decide +kernel) (by simp [lg_sl, Value.category]) (fun E C X => ?_)
  show WP E ad 0 [some (.ref (ad 71)), some (.int j), some (.int i), some (.long v), none] [] σ
  refine s_iload_n C dX10_lay_0 rfl ?_
  refine s_callSI (st := []) C (c_X10_isList l ad σ j ) cv_X10_349 rfl rfl ⟨by decide, by decide⟩ (Nat.le_of_ble_eq_true rfl) dX10_lay_1 ?_
  intro r1 τ2 h3
  obtain ⟨eh3, h3⟩ := h3; replace eh3 := eh3.symm; subst eh3
  refine s_if_ne (tgt := 9) C dX10_lay_4 (by decide) (fun q4 => ?_) (fun q4 => ?_)
  · refine s_aload_n C dX10_lay_9 rfl ?_
    refine s_getr (k := 19) (j := 87) C y71 fw_X10_61 rfl dX10_lay_10 ?_
    refine s_iload_n C dX10_lay_13 rfl ?_
    refine s_iald (r := (σ.1 87 j.toNatClampNeg)) C y87 (by omega) rfl dX10_lay_14 ?_
    have b5 := hI.ls j.toNatClampNeg
    refine s_if_ge (tgt := 21) C dX10_lay_15 (by decide) (fun q6 => ?_) (fun q6 => ?_)
    · refine s_iload_n C dX10_lay_21 rfl ?_
      refine s_i2l C dX10_lay_22 (fun L7 tL7 => ?_)
      refine s_lconst C dX10_lay_23 rfl (fun L8 tL8 => ?_)
      have tL8 : L8.toInt = 0 := tL8
      refine s_aload_n C dX10_lay_24 rfl ?_
      refine s_getr (k := 19) (j := 87) C y71 fw_X10_61 rfl dX10_lay_25 ?_
      refine s_iload_n C dX10_lay_28 rfl ?_
      refine s_iald (r := (σ.1 87 j.toNatClampNeg)) C y87 (by omega) rfl dX10_lay_29 ?_
      have b9 := hI.ls j.toNatClampNeg
      refine s_iconst C dX10_lay_30 (by decide) (fun z10 tz10 => ?_)
      refine s_isub C dX10_lay_31 (by omega) (fun z11 tz11 => ?_)
      refine s_i2l C dX10_lay_32 (fun L12 tL12 => ?_)
      refine s_callSI (st := []) C (c_X10_in l ad σ L7 L8 L12 ) cv_X10_165 rfl rfl ⟨by decide, by decide⟩ (Nat.le_of_ble_eq_true rfl) dX10_lay_33 ?_
      intro r13 τ14 h15
      obtain ⟨eh15, h15⟩ := h15; replace eh15 := eh15.symm; subst eh15
      refine s_if_ne (tgt := 42) C dX10_lay_36 (by decide) (fun q16 => ?_) (fun q16 => ?_)
      · refine s_aload_n C dX10_lay_42 rfl ?_
        refine s_getr (k := 20) (j := 88) C y71 fw_X10_64 rfl dX10_lay_43 ?_
        refine s_bipush C dX10_lay_46 (by decide) (fun z17 tz17 => ?_)
        refine s_iload_n C dX10_lay_48 rfl ?_
        refine s_imulL C tz17 dX10_lay_49 (by omega) (fun z18 tz18 => ?_)
        refine s_iload_n C dX10_lay_50 rfl ?_
        refine s_iadd C dX10_lay_51 (by omega) (fun z19 tz19 => ?_)
        refine s_lload_n C dX10_lay_52 rfl ?_
        refine s_last C y88 (by omega) dX10_lay_53 ?_
        refine s_iconst C dX10_lay_54 (by decide) (fun z20 tz20 => ?_)
        exact s_iret C X dX10_lay_55 ⟨hI, (Fr.sL Fr.rf (by decide))⟩
      · refine s_bipush C dX10_lay_39 (by decide) (fun z21 tz21 => ?_)
        exact s_iret C X dX10_lay_41 ⟨hI, Fr.rf⟩
    · refine s_bipush C dX10_lay_18 (by decide) (fun z22 tz22 => ?_)
      exact s_iret C X dX10_lay_20 ⟨hI, Fr.rf⟩
  · refine s_iconst C dX10_lay_7 (by decide) (fun z23 tz23 => ?_)
    exact s_iret C X dX10_lay_8 ⟨hI, Fr.rf⟩
set_option maxRecDepth 100000 in
theorem c_X10_mark (l : Launch) (ad : Nat → Nat) (σ : Sg) (p : Int32) (k : Int32) (is : Int32) (hI : IM σ.1) : Mt l yX10_mark cX10_mark 5 (some .int) 3 ad σ [.ref (ad 71), .int p, .int k, .int is] (oI (fun r τ => IM τ.1 ∧ Fr [77] [] σ τ)) := by
  have hpr := hI.pr
  have htot := hI.tot
  have hms := hI.ms
  have htp := hI.tp
  refine Mt_intro (by decide +kernel) (by simp [lg_sl, Value.category]) (fun E C X => ?_)
  show WP E ad 0 [some (.ref (ad 71)), some (.int p), some (.int k), some (.int is), none] [] σ
  refine s_aload_n C dX10_mark_0 rfl ?_
  refine s_iload_n C dX10_mark_1 rfl ?_
  refine s_iload_n C dX10_mark_2 rfl ?_
  refine s_callVI (st := []) C (c_X10_isEvent l ad σ p k (by omega)) cv_X10_202 y71 rfl rfl rfl ⟨by decide, by decide⟩ (Nat.le_of_ble_eq_true rfl) dX10_mark_3 ?_
  intro r1 τ2 h3
  obtain ⟨eh3, h3⟩ := h3; replace eh3 := eh3.symm; subst eh3
  have bv5 := hI.ev p.toNatClampNeg
  refine s_if_ne (tgt := 11) C dX10_mark_6 (by decide) (fun q4 => ?_) (fun q4 => ?_)
  · refine s_iload_n C dX10_mark_11 rfl ?_
    refine s_i2l C dX10_mark_12 (fun L5 tL5 => ?_)
    refine s_lconst C dX10_mark_13 rfl (fun L6 tL6 => ?_)
    have tL6 : L6.toInt = 0 := tL6
    refine s_lconst C dX10_mark_14 rfl (fun L7 tL7 => ?_)
    have tL7 : L7.toInt = 1 := tL7
    refine s_callSI (st := []) C (c_X10_in l ad σ L5 L6 L7 ) cv_X10_165 rfl rfl ⟨by decide, by decide⟩ (Nat.le_of_ble_eq_true rfl) dX10_mark_15 ?_
    intro r8 τ9 h10
    obtain ⟨eh10, h10⟩ := h10; replace eh10 := eh10.symm; subst eh10
    refine s_if_ne (tgt := 24) C dX10_mark_18 (by decide) (fun q11 => ?_) (fun q11 => ?_)
    · refine s_aload_n C dX10_mark_24 rfl ?_
      refine s_getr (k := 6) (j := 77) C y71 fw_X10_31 rfl dX10_mark_25 ?_
      refine s_iload_n C dX10_mark_28 rfl ?_
      refine s_iload_n C dX10_mark_29 rfl ?_
      refine s_callSI (st := [.ref (ad 77)]) C (c_X10_at l ad σ p k (by omega) (by omega)) cv_X10_189 rfl rfl ⟨by decide, by decide⟩ (Nat.le_of_ble_eq_true rfl) dX10_mark_30 ?_
      intro r12 τ13 h14
      obtain ⟨eh14, h14⟩ := h14; replace eh14 := eh14.symm; subst eh14
      refine s_iald (r := (σ.1 77 r12.toNatClampNeg)) C y77 (by omega) rfl dX10_mark_33 ?_
      refine s_istore C dX10_mark_34 (by decide) (Nat.le_of_ble_eq_true rfl) rfl ?_
      show WP E ad 36 [some (.ref (ad 71)), some (.int p), some (.int k), some (.int is), some (.int (σ.1 77 r12.toNatClampNeg))] [] σ
      refine s_aload_n C dX10_mark_36 rfl ?_
      refine s_getr (k := 6) (j := 77) C y71 fw_X10_31 rfl dX10_mark_37 ?_
      refine s_iload_n C dX10_mark_40 rfl ?_
      refine s_iload_n C dX10_mark_41 rfl ?_
      refine s_callSI (st := [.ref (ad 77)]) C (c_X10_at l ad σ p k (by omega) (by omega)) cv_X10_189 rfl rfl ⟨by decide, by decide⟩ (Nat.le_of_ble_eq_true rfl) dX10_mark_42 ?_
      intro r15 τ16 h17
      obtain ⟨eh17, h17⟩ := h17; replace eh17 := eh17.symm; subst eh17
      refine s_iload_n C dX10_mark_45 rfl ?_
      refine s_iast C y77 (by omega) dX10_mark_46 ?_
      refine s_iload C dX10_mark_47 rfl ?_
      exact s_iret C X dX10_mark_49 ⟨hI, (Fr.sV Fr.rf (Or.inl (by decide)))⟩
    · refine s_bipush C dX10_mark_21 (by decide) (fun z18 tz18 => ?_)
      exact s_iret C X dX10_mark_23 ⟨hI, Fr.rf⟩
  · refine s_iconst C dX10_mark_9 (by decide) (fun z19 tz19 => ?_)
    exact s_iret C X dX10_mark_10 ⟨hI, Fr.rf⟩
set_option maxRecDepth 100000 in
theorem c_X10_forget (l : Launch) (ad : Nat → Nat) (σ : Sg) (c : Int32) (hI : IM σ.1) : Mt l yX10_forget cX10_forget 3 (some .int) 3 ad σ [.ref (ad 71), .int c] (oI (fun r τ => IM τ.1 ∧ Fr [84] [] σ τ)) := by
  have hpr := hI.pr
  have htot := hI.tot
  have hms := hI.ms
  have htp := hI.tp
  refine Mt_intro (by decide +kernel) (by simp [lg_sl, Value.category]) (fun E C X => ?_)
  show WP E ad 0 [some (.ref (ad 71)), some (.int c), none] [] σ
  refine s_aload_n C dX10_forget_0 rfl ?_
  refine s_iload_n C dX10_forget_1 rfl ?_
  refine s_callVI (st := []) C (c_X10_wrongCondition l ad σ c hI) cv_X10_305 y71 rfl rfl rfl ⟨by decide, by decide⟩ (Nat.le_of_ble_eq_true rfl) dX10_forget_2 ?_
  intro r1 τ2 h3
  obtain ⟨eh3, h3⟩ := h3; replace eh3 := eh3.symm; subst eh3
  refine s_istore_n C dX10_forget_5 (by decide) (Nat.le_of_ble_eq_true rfl) rfl ?_
  show WP E ad 6 [some (.ref (ad 71)), some (.int c), some (.int r1)] [] σ
  refine s_iload_n C dX10_forget_6 rfl ?_
  refine s_if_ge (tgt := 12) C dX10_forget_7 (by decide) (fun q4 => ?_) (fun q4 => ?_)
  · refine s_aload_n C dX10_forget_12 rfl ?_
    refine s_getr (k := 15) (j := 84) C y71 fw_X10_52 rfl dX10_forget_13 ?_
    refine s_iload_n C dX10_forget_16 rfl ?_
    refine s_iconst C dX10_forget_17 (by decide) (fun z5 tz5 => ?_)
    refine s_iast C y84 (by omega) dX10_forget_18 ?_
    refine s_iconst C dX10_forget_19 (by decide) (fun z6 tz6 => ?_)
    exact s_iret C X dX10_forget_20 ⟨⟨hI.1, hI.2.1, hI.2.2.1, hI.2.2.2.1, tx_forget hI.2.2.2.2.1 (by omega), hI.2.2.2.2.2.1, hI.2.2.2.2.2.2⟩, (Fr.sV Fr.rf (Or.inl (by decide)))⟩
  · refine s_iload_n C dX10_forget_10 rfl ?_
    exact s_iret C X dX10_forget_11 ⟨hI, Fr.rf⟩
