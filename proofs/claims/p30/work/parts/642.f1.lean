def pl (V : Nat → Nat → Int32) : Nat := (V 66 1).toInt.toNat
def TS (t : Nat → Int32) (n : Nat) (pr : Int) (V : Nat → Nat → Int32) : Prop := V 67 = t ∧ (V 66 0).toInt = n ∧ (V 1 0).toInt = pr ∧ (V 66 1).toInt = pl V ∧ pl V ≤ n
def AcF (t : Nat → Int32) (n k k' : Nat) (c r : Int32) : Prop := (r.toInt = 1 → k < n ∧ (t k).toInt = c.toInt ∧ k' = k + 1) ∧ (r.toInt = 0 → (n ≤ k ∨ ¬ (t k).toInt = c.toInt) ∧ k' = k)
def FgF (t : Nat → Int32) (n k k' : Nat) (b r : Int32) : Prop := (0 ≤ r.toInt → k < n ∧ (t k).toInt = 48 + r.toInt ∧ r.toInt ≤ 9 ∧ r.toInt < b.toInt ∧ k' = k + 1) ∧ (r.toInt < 0 → k' = k ∧ (n ≤ k ∨ ¬ (48 ≤ (t k).toInt ∧ (t k).toInt ≤ 57 ∧ (t k).toInt < 48 + b.toInt)))
def NuF (t : Nat → Int32) (n k k' : Nat) (r : Int32) : Prop := (0 ≤ r.toInt → r.toInt ≤ 99 ∧ k < n ∧ 48 ≤ (t k).toInt ∧ (t k).toInt ≤ 57 ∧ ((k + 1 < n ∧ 48 ≤ (t (k + 1)).toInt ∧ (t (k + 1)).toInt ≤ 57 ∧ k' = k + 2) ∨ (¬ (k + 1 < n ∧ 48 ≤ (t (k + 1)).toInt ∧ (t (k + 1)).toInt ≤ 57) ∧ k' = k + 1))) ∧ (r.toInt < 0 → k' = k ∧ (n ≤ k ∨ ¬ (48 ≤ (t k).toInt ∧ (t k).toInt ≤ 57)))
def UnF (pr : Int) (t : Nat → Int32) (n k k' : Nat) (r : Int32) : Prop := (r.toInt = 1 → bu pr t n k = k') ∧ (r.toInt = 0 → bu pr t n k = -1 - (k' : Int))
def SmF (pr : Int) (t : Nat → Int32) (n k k' : Nat) (r : Int32) : Prop := ∀ (s : Nat) (o : List Bool), s = 1 ∨ s = 2 → (r.toInt = 1 → Uu pr t n s o k = Au pr t n s o k' ∧ (n ≤ k' ∨ ¬ ((t k').toInt = 43 ∨ (t k').toInt = 45)) ∧ k < k') ∧ (r.toInt = 0 → Uu pr t n s o k = k')
def CmF (pr : Int) (t : Nat → Int32) (n k k' : Nat) (r : Int32) : Prop := (n ≤ k ∨ ¬ ((t k).toInt = 33 ∨ (t k).toInt = 40)) → ∀ o : List Bool, (r.toInt = 1 → Au pr t n 0 o k = Au pr t n 3 o k' ∧ k < k') ∧ (r.toInt = 0 → Au pr t n 0 o k = k')
def TsF (pr : Int) (t : Nat → Int32) (n d k k' : Nat) (r : Int32) : Prop := ∀ o : List Bool, o.length = d → (r.toInt = 1 → Au pr t n 0 o k = Au pr t n 3 o k' ∧ k < k') ∧ (r.toInt = 0 → Au pr t n 0 o k = k')
def AlF (pr : Int) (t : Nat → Int32) (n d k k' : Nat) (r : Int32) : Prop := ∀ o : List Bool, o.length = d → te o = o → (r.toInt = 1 → Au pr t n 0 o k = Au pr t n 3 o k' ∧ k < k' ∧ (n ≤ k' ∨ ¬ (t k').toInt = 38)) ∧ (r.toInt = 0 → Au pr t n 0 o k = k')
def CoF (pr : Int) (t : Nat → Int32) (n d k k' : Nat) (r : Int32) : Prop := ∀ o : List Bool, o.length = d → te o = o → (r.toInt = 1 → Au pr t n 0 o k = Au pr t n 3 o k' ∧ k < k' ∧ (n ≤ k' ∨ ¬ ((t k').toInt = 38 ∨ (t k').toInt = 124))) ∧ (r.toInt = 0 → Au pr t n 0 o k = k')
theorem TS.go {t : Nat → Int32} {n : Nat} {pr : Int} {cs : List Nat} {fs : List (Nat × Nat)} {σ τ : Sg} (h : TS t n pr σ.1) (hF : Fr cs fs σ τ) (hc : ∀ x ∈ [67, 66, 1], x ∉ cs) (hf : (66, 0) ∉ fs ∧ (1, 0) ∉ fs ∧ ∀ q ∈ fs, q.1 ≠ 67) (h0 : 0 ≤ (τ.1 66 1).toInt) (h1 : (τ.1 66 1).toInt ≤ n) : TS t n pr τ.1 := by
  refine ⟨(hF.a 67 (hc 67 (by decide)) hf.2.2).trans h.1, ?_, ?_, ?_, ?_⟩
  · rw [hF.f 66 0 (hc 66 (by decide)) hf.1]; exact h.2.1
  · rw [hF.f 1 0 (hc 1 (by decide)) hf.2.1]; exact h.2.2.1
  · unfold pl; omega
  · unfold pl; omega
theorem sub48 {x y z : Int32} (h : z = x - y) (hy : y.toInt = 48) : (0 ≤ z.toInt ∧ z.toInt ≤ 9 → x.toInt = z.toInt + 48) ∧ (48 ≤ x.toInt ∧ x.toInt ≤ 57 → z.toInt = x.toInt - 48) := by
  have e : y = 48 := ceq hy
  subst e
  have hx1 := x.toInt_lt
  have hx2 := x.le_toInt
  have e2 : z.toInt = (x.toInt - 48).bmod (2 ^ 32) := by rw [h, Int32.toInt_sub]; rfl
  rw [Int.bmod_def] at e2
  constructor <;> intro q <;> (split at e2 <;> omega)
section BU
variable {pr : Int} {t : Nat → Int32} {n k : Nat}
theorem bu_m (h : k < n) (hc : (t k).toInt = 109) : bu pr t n k = k + 1 := by
  unfold bu tA; rw [if_pos h, if_pos hc]
theorem bu_x (h : k + 1 < n) (hc : (t k).toInt = 120 ∨ (t k).toInt = 99) (h1 : 48 ≤ (t (k + 1)).toInt ∧ (t (k + 1)).toInt < 48 + pr) : bu pr t n k = k + 2 := by
  unfold bu tA; rw [if_pos (by omega : k < n), if_pos h, if_neg (by omega), if_pos hc, if_pos h1]
theorem bu_y (h : k < n) (hc : (t k).toInt = 120 ∨ (t k).toInt = 99) (h1 : n ≤ k + 1 ∨ ¬ (48 ≤ (t (k + 1)).toInt ∧ (t (k + 1)).toInt < 48 + pr)) : bu pr t n k = -2 - (k : Int) := by
  unfold bu tA
  rw [if_pos h, if_neg (by omega), if_pos hc]
  by_cases q : k + 1 < n
  · rw [if_pos q, if_neg (h1.resolve_left (by omega))]
  · rw [if_neg q, if_neg (by omega)]
theorem bu_0 (h : n ≤ k ∨ (¬ (t k).toInt = 109 ∧ ¬ (t k).toInt = 120 ∧ ¬ (t k).toInt = 99 ∧ ¬ (48 ≤ (t k).toInt ∧ (t k).toInt ≤ 57))) : bu pr t n k = -1 - (k : Int) := by
  by_cases q : k < n
  · have h' := h.resolve_left (by omega)
    unfold bu tA
    rw [if_pos q, if_neg h'.1, if_neg (by omega), if_pos h'.2.2.2]
  · exact bu_end (by omega)
theorem bu_f (h : k < n) (hc : 48 ≤ (t k).toInt ∧ (t k).toInt ≤ 57) {k' : Nat} (h1 : (k + 1 < n ∧ 48 ≤ (t (k + 1)).toInt ∧ (t (k + 1)).toInt ≤ 57 ∧ k' = k + 2) ∨ (¬ (k + 1 < n ∧ 48 ≤ (t (k + 1)).toInt ∧ (t (k + 1)).toInt ≤ 57) ∧ k' = k + 1)) : bu pr t n k = k' := by
  unfold bu tA
  rw [if_pos h, if_neg (by omega), if_neg (by omega), if_neg (by omega)]
  by_cases q : k + 1 < n
  · rw [if_pos q]
    split <;> omega
  · rw [if_neg q, if_neg (by omega)]
    omega
theorem Uu_ok {s k' : Nat} {o : List Bool} (h : bu pr t n k = (k' : Int)) : Uu pr t n s o k = Au pr t n s o k' := by
  unfold Uu; rw [h, if_neg (by omega)]; rfl
theorem Uu_no {s k' : Nat} {o : List Bool} (h : bu pr t n k = -1 - (k' : Int)) : Uu pr t n s o k = k' := by
  unfold Uu; rw [h, if_pos (by omega)]; omega
end BU
set_option maxRecDepth 100000 in
theorem f_accept (l : Launch) (ad : Nat → Nat) (σ : Sg) (c : Int32) (hX : IX σ.1) (t : Nat → Int32) (n : Nat) (pr : Int) (hS : TS t n pr σ.1)  : Mt l yX8_accept cX8_accept 2 (some .boolean) 0 ad σ [.ref (ad 66), .int c] (oI (fun r τ => IX τ.1 ∧ Fr [] [(66, 1)] σ τ ∧ TS t n pr τ.1 ∧ (r.toInt = 0 ∨ r.toInt = 1) ∧ AcF t n (pl σ.1) (pl τ.1) c r)) := by
  have hS1 := hS.1
  have hS2 := hS.2.1
  have hS3 := hS.2.2.1
  have hS4 := hS.2.2.2.1
  have hS5 := hS.2.2.2.2
  have htl := hX.tl
  have hS6 : (σ.1 66 1).toInt.toNat = pl σ.1 := rfl
  have hb : Int32.toInt (σ.1 67 (σ.1 66 1).toNatClampNeg) = Int32.toInt (t (σ.1 66 1).toInt.toNat) := by rw [hS1]; rfl
  refine Mt_intro (by decide +kernel) (by simp [lg_sl, Value.category]) (fun E C X => ?_)
  show WP E ad 0 [some (.ref (ad 66)), some (.int c)] [] σ
  refine s_aload_n C dX8_accept_0 rfl ?_
  refine s_get (k := 1) (x := (σ.1 66 1)) C y66 fw_X8_15 rfl rfl dX8_accept_1 ?_
  refine s_aload_n C dX8_accept_4 rfl ?_
  refine s_get (k := 0) (x := (σ.1 66 0)) C y66 fw_X8_9 rfl rfl dX8_accept_5 ?_
  refine s_icmp_ge (tgt := 24) C dX8_accept_8 (by decide) (fun q1 => ?_) (fun q1 => ?_)
  · refine s_iconst C dX8_accept_24 (by decide) (fun z2 tz2 => ?_)
    exact s_zret C (by omega) X dX8_accept_25 ⟨hX, Fr.rf, hS, by omega, (show AcF t n (σ.1 66 1).toInt.toNat (Int32.toInt (σ.1 66 1)).toNat c z2 from ⟨fun q => by omega, fun q => by omega⟩)⟩
  · refine s_aload_n C dX8_accept_11 rfl ?_
    refine s_getr (k := 2) (j := 67) C y66 fw_X8_18 rfl dX8_accept_12 ?_
    refine s_aload_n C dX8_accept_15 rfl ?_
    refine s_get (k := 1) (x := (σ.1 66 1)) C y66 fw_X8_15 rfl rfl dX8_accept_16 ?_
    refine s_iald (r := (σ.1 67 ((σ.1 66 1).toNatClampNeg))) C y67 (by omega) rfl dX8_accept_19 ?_
    refine s_iload_n C dX8_accept_20 rfl ?_
    refine s_icmp_eq (tgt := 26) C dX8_accept_21 (by decide) (fun q3 => ?_) (fun q3 => ?_)
    · refine s_aload_n C dX8_accept_26 rfl ?_
      refine s_dup C dX8_accept_27 rfl ?_
      refine s_get (k := 1) (x := (σ.1 66 1)) C y66 fw_X8_15 rfl rfl dX8_accept_28 ?_
      refine s_iconst C dX8_accept_31 (by decide) (fun z4 tz4 => ?_)
      refine s_iadd C dX8_accept_32 (by omega) (fun z5 tz5 => ?_)
      refine s_put (k := 1) C y66 fw_X8_15 fp_7_1 rfl dX8_accept_33 ?_
      refine s_iconst C dX8_accept_36 (by decide) (fun z6 tz6 => ?_)
      exact s_zret C (by omega) X dX8_accept_37 ⟨⟨hX.1, hX.2.1, hX.2.2.1, hX.2.2.2.1, hX.2.2.2.2.1, hX.2.2.2.2.2.1, hX.2.2.2.2.2.2.1, hX.2.2.2.2.2.2.2.1, hX.2.2.2.2.2.2.2.2.1, hX.2.2.2.2.2.2.2.2.2.1, hX.2.2.2.2.2.2.2.2.2.2.1, hX.2.2.2.2.2.2.2.2.2.2.2.1, ⟨(by show 0 ≤ Int32.toInt (σ.1 66 0) ∧ Int32.toInt (σ.1 66 0) ≤ 60; omega), (by show 0 ≤ Int32.toInt z5 ∧ Int32.toInt z5 ≤ 60; omega)⟩, hX.2.2.2.2.2.2.2.2.2.2.2.2.2⟩, (Fr.sV Fr.rf (Or.inr (by decide))), (hS.go (cs := []) (fs := [(66, 1)]) (Fr.sV Fr.rf (Or.inr (by decide))) (by decide) (by decide) (by show 0 ≤ Int32.toInt z5; omega) (by show Int32.toInt z5 ≤ n; omega)), by omega, (show AcF t n (σ.1 66 1).toInt.toNat (Int32.toInt z5).toNat c z6 from ⟨fun q => by omega, fun q => by omega⟩)⟩
    · refine s_iconst C dX8_accept_24 (by decide) (fun z7 tz7 => ?_)
      exact s_zret C (by omega) X dX8_accept_25 ⟨hX, Fr.rf, hS, by omega, (show AcF t n (σ.1 66 1).toInt.toNat (Int32.toInt (σ.1 66 1)).toNat c z7 from ⟨fun q => by omega, fun q => by omega⟩)⟩
set_option maxRecDepth 100000 in
theorem f_peek (l : Launch) (ad : Nat → Nat) (σ : Sg)  (hX : IX σ.1) (t : Nat → Int32) (n : Nat) (pr : Int) (hS : TS t n pr σ.1) : Mt l yX8_peek cX8_peek 1 (some .int) 0 ad σ [.ref (ad 66)] (oI (fun r τ => τ = σ ∧ r.toInt = tA t n (pl σ.1))) := by
  have hS1 := hS.1
  have hS2 := hS.2.1
  have hS3 := hS.2.2.1
  have hS4 := hS.2.2.2.1
  have hS5 := hS.2.2.2.2
  have htl := hX.tl
  have hS6 : (σ.1 66 1).toInt.toNat = pl σ.1 := rfl
  have hb : Int32.toInt (σ.1 67 (σ.1 66 1).toNatClampNeg) = Int32.toInt (t (σ.1 66 1).toInt.toNat) := by rw [hS1]; rfl
  refine Mt_intro (by decide +kernel) (by simp [lg_sl, Value.category]) (fun E C X => ?_)
  show WP E ad 0 [some (.ref (ad 66))] [] σ
  refine s_aload_n C dX8_peek_0 rfl ?_
  refine s_get (k := 1) (x := (σ.1 66 1)) C y66 fw_X8_15 rfl rfl dX8_peek_1 ?_
  refine s_aload_n C dX8_peek_4 rfl ?_
  refine s_get (k := 0) (x := (σ.1 66 0)) C y66 fw_X8_9 rfl rfl dX8_peek_5 ?_
  refine s_icmp_ge (tgt := 23) C dX8_peek_8 (by decide) (fun q1 => ?_) (fun q1 => ?_)
  · refine s_iconst C dX8_peek_23 (by decide) (fun z2 tz2 => ?_)
    exact s_iret C X dX8_peek_24 ⟨rfl, by unfold tA; rw [← hS6]; split <;> omega⟩
  · refine s_aload_n C dX8_peek_11 rfl ?_
    refine s_getr (k := 2) (j := 67) C y66 fw_X8_18 rfl dX8_peek_12 ?_
    refine s_aload_n C dX8_peek_15 rfl ?_
    refine s_get (k := 1) (x := (σ.1 66 1)) C y66 fw_X8_15 rfl rfl dX8_peek_16 ?_
    refine s_iald (r := (σ.1 67 ((σ.1 66 1).toNatClampNeg))) C y67 (by omega) rfl dX8_peek_19 ?_
    refine s_goto (tgt := 24) C dX8_peek_20 (by decide) ?_
    exact s_iret C X dX8_peek_24 ⟨rfl, by unfold tA; rw [← hS6]; split <;> omega⟩
set_option maxRecDepth 100000 in
theorem f_figureBelow (l : Launch) (ad : Nat → Nat) (σ : Sg) (b : Int32) (hX : IX σ.1) (t : Nat → Int32) (n : Nat) (pr : Int) (hS : TS t n pr σ.1)  : Mt l yX8_figureBelow cX8_figureBelow 3 (some .int) 0 ad σ [.ref (ad 66), .int b] (oI (fun r τ => IX τ.1 ∧ Fr [] [(66, 1)] σ τ ∧ TS t n pr τ.1 ∧ True ∧ FgF t n (pl σ.1) (pl τ.1) b r)) := by
  have hS1 := hS.1
  have hS2 := hS.2.1
  have hS3 := hS.2.2.1
  have hS4 := hS.2.2.2.1
  have hS5 := hS.2.2.2.2
  have htl := hX.tl
  have hS6 : (σ.1 66 1).toInt.toNat = pl σ.1 := rfl
  have hb : Int32.toInt (σ.1 67 (σ.1 66 1).toNatClampNeg) = Int32.toInt (t (σ.1 66 1).toInt.toNat) := by rw [hS1]; rfl
  refine Mt_intro (by decide +kernel) (by simp [lg_sl, Value.category]) (fun E C X => ?_)
  show WP E ad 0 [some (.ref (ad 66)), some (.int b), none] [] σ
  refine s_aload_n C dX8_figureBelow_0 rfl ?_
  refine s_get (k := 1) (x := (σ.1 66 1)) C y66 fw_X8_15 rfl rfl dX8_figureBelow_1 ?_
  refine s_aload_n C dX8_figureBelow_4 rfl ?_
  refine s_get (k := 0) (x := (σ.1 66 0)) C y66 fw_X8_9 rfl rfl dX8_figureBelow_5 ?_
  refine s_icmp_ge (tgt := 26) C dX8_figureBelow_8 (by decide) (fun q1 => ?_) (fun q1 => ?_)
  · refine s_iconst C dX8_figureBelow_26 (by decide) (fun z2 tz2 => ?_)
    refine s_istore_n C dX8_figureBelow_27 (by decide) (Nat.le_of_ble_eq_true rfl) rfl ?_
    show WP E ad 28 [some (.ref (ad 66)), some (.int b), some (.int z2)] [] σ
    refine s_iload_n C dX8_figureBelow_28 rfl ?_
    refine s_if_lt (tgt := 43) C dX8_figureBelow_29 (by decide) (fun q3 => ?_) (fun q3 => ?_)
    · refine s_iconst C dX8_figureBelow_43 (by decide) (fun z4 tz4 => ?_)
      exact s_iret C X dX8_figureBelow_44 ⟨hX, Fr.rf, hS, trivial, (show FgF t n (σ.1 66 1).toInt.toNat (Int32.toInt (σ.1 66 1)).toNat b z4 from ⟨fun q => by omega, fun q => by omega⟩)⟩
    · refine s_iload_n C dX8_figureBelow_32 rfl ?_
      refine s_bipush C dX8_figureBelow_33 (by decide) (fun z5 tz5 => ?_)
      refine s_icmp_gt (tgt := 43) C dX8_figureBelow_35 (by decide) (fun q6 => ?_) (fun q6 => ?_)
      · refine s_iconst C dX8_figureBelow_43 (by decide) (fun z7 tz7 => ?_)
        exact s_iret C X dX8_figureBelow_44 ⟨hX, Fr.rf, hS, trivial, (show FgF t n (σ.1 66 1).toInt.toNat (Int32.toInt (σ.1 66 1)).toNat b z7 from ⟨fun q => by omega, fun q => by omega⟩)⟩
      · refine s_iload_n C dX8_figureBelow_38 rfl ?_
        refine s_iload_n C dX8_figureBelow_39 rfl ?_
        refine s_icmp_lt (tgt := 45) C dX8_figureBelow_40 (by decide) (fun q8 => ?_) (fun q8 => ?_)
        · refine s_aload_n C dX8_figureBelow_45 rfl ?_
          refine s_dup C dX8_figureBelow_46 rfl ?_
          refine s_get (k := 1) (x := (σ.1 66 1)) C y66 fw_X8_15 rfl rfl dX8_figureBelow_47 ?_
          refine s_iconst C dX8_figureBelow_50 (by decide) (fun z9 tz9 => ?_)
          refine s_iadd C dX8_figureBelow_51 (by omega) (fun z10 tz10 => ?_)
          refine s_put (k := 1) C y66 fw_X8_15 fp_7_1 rfl dX8_figureBelow_52 ?_
          refine s_iload_n C dX8_figureBelow_55 rfl ?_
          exact s_iret C X dX8_figureBelow_56 ⟨⟨hX.1, hX.2.1, hX.2.2.1, hX.2.2.2.1, hX.2.2.2.2.1, hX.2.2.2.2.2.1, hX.2.2.2.2.2.2.1, hX.2.2.2.2.2.2.2.1, hX.2.2.2.2.2.2.2.2.1, hX.2.2.2.2.2.2.2.2.2.1, hX.2.2.2.2.2.2.2.2.2.2.1, hX.2.2.2.2.2.2.2.2.2.2.2.1, ⟨(by show 0 ≤ Int32.toInt (σ.1 66 0) ∧ Int32.toInt (σ.1 66 0) ≤ 60; omega), (by show 0 ≤ Int32.toInt z10 ∧ Int32.toInt z10 ≤ 60; omega)⟩, hX.2.2.2.2.2.2.2.2.2.2.2.2.2⟩, (Fr.sV Fr.rf (Or.inr (by decide))), (hS.go (cs := []) (fs := [(66, 1)]) (Fr.sV Fr.rf (Or.inr (by decide))) (by decide) (by decide) (by show 0 ≤ Int32.toInt z10; omega) (by show Int32.toInt z10 ≤ n; omega)), trivial, (show FgF t n (σ.1 66 1).toInt.toNat (Int32.toInt z10).toNat b z2 from ⟨fun q => by omega, fun q => by omega⟩)⟩
        · refine s_iconst C dX8_figureBelow_43 (by decide) (fun z11 tz11 => ?_)
          exact s_iret C X dX8_figureBelow_44 ⟨hX, Fr.rf, hS, trivial, (show FgF t n (σ.1 66 1).toInt.toNat (Int32.toInt (σ.1 66 1)).toNat b z11 from ⟨fun q => by omega, fun q => by omega⟩)⟩
  · refine s_aload_n C dX8_figureBelow_11 rfl ?_
    refine s_getr (k := 2) (j := 67) C y66 fw_X8_18 rfl dX8_figureBelow_12 ?_
    refine s_aload_n C dX8_figureBelow_15 rfl ?_
    refine s_get (k := 1) (x := (σ.1 66 1)) C y66 fw_X8_15 rfl rfl dX8_figureBelow_16 ?_
    refine s_iald (r := (σ.1 67 ((σ.1 66 1).toNatClampNeg))) C y67 (by omega) rfl dX8_figureBelow_19 ?_
    refine s_bipush C dX8_figureBelow_20 (by decide) (fun z12 tz12 => ?_)
    skip
    refine s_isubU C dX8_figureBelow_22 (fun z13 tz13 => ?_)
    have s48 := sub48 tz13 tz12
    refine s_goto (tgt := 27) C dX8_figureBelow_23 (by decide) ?_
    refine s_istore_n C dX8_figureBelow_27 (by decide) (Nat.le_of_ble_eq_true rfl) rfl ?_
    show WP E ad 28 [some (.ref (ad 66)), some (.int b), some (.int z13)] [] σ
    refine s_iload_n C dX8_figureBelow_28 rfl ?_
    refine s_if_lt (tgt := 43) C dX8_figureBelow_29 (by decide) (fun q14 => ?_) (fun q14 => ?_)
    · refine s_iconst C dX8_figureBelow_43 (by decide) (fun z15 tz15 => ?_)
      exact s_iret C X dX8_figureBelow_44 ⟨hX, Fr.rf, hS, trivial, (show FgF t n (σ.1 66 1).toInt.toNat (Int32.toInt (σ.1 66 1)).toNat b z15 from ⟨fun q => by omega, fun q => by omega⟩)⟩
    · refine s_iload_n C dX8_figureBelow_32 rfl ?_
      refine s_bipush C dX8_figureBelow_33 (by decide) (fun z16 tz16 => ?_)
      refine s_icmp_gt (tgt := 43) C dX8_figureBelow_35 (by decide) (fun q17 => ?_) (fun q17 => ?_)
      · refine s_iconst C dX8_figureBelow_43 (by decide) (fun z18 tz18 => ?_)
        exact s_iret C X dX8_figureBelow_44 ⟨hX, Fr.rf, hS, trivial, (show FgF t n (σ.1 66 1).toInt.toNat (Int32.toInt (σ.1 66 1)).toNat b z18 from ⟨fun q => by omega, fun q => by omega⟩)⟩
      · refine s_iload_n C dX8_figureBelow_38 rfl ?_
        refine s_iload_n C dX8_figureBelow_39 rfl ?_
        refine s_icmp_lt (tgt := 45) C dX8_figureBelow_40 (by decide) (fun q19 => ?_) (fun q19 => ?_)
        · refine s_aload_n C dX8_figureBelow_45 rfl ?_
          refine s_dup C dX8_figureBelow_46 rfl ?_
          refine s_get (k := 1) (x := (σ.1 66 1)) C y66 fw_X8_15 rfl rfl dX8_figureBelow_47 ?_
          refine s_iconst C dX8_figureBelow_50 (by decide) (fun z20 tz20 => ?_)
          refine s_iadd C dX8_figureBelow_51 (by omega) (fun z21 tz21 => ?_)
          refine s_put (k := 1) C y66 fw_X8_15 fp_7_1 rfl dX8_figureBelow_52 ?_
          refine s_iload_n C dX8_figureBelow_55 rfl ?_
          exact s_iret C X dX8_figureBelow_56 ⟨⟨hX.1, hX.2.1, hX.2.2.1, hX.2.2.2.1, hX.2.2.2.2.1, hX.2.2.2.2.2.1, hX.2.2.2.2.2.2.1, hX.2.2.2.2.2.2.2.1, hX.2.2.2.2.2.2.2.2.1, hX.2.2.2.2.2.2.2.2.2.1, hX.2.2.2.2.2.2.2.2.2.2.1, hX.2.2.2.2.2.2.2.2.2.2.2.1, ⟨(by show 0 ≤ Int32.toInt (σ.1 66 0) ∧ Int32.toInt (σ.1 66 0) ≤ 60; omega), (by show 0 ≤ Int32.toInt z21 ∧ Int32.toInt z21 ≤ 60; omega)⟩, hX.2.2.2.2.2.2.2.2.2.2.2.2.2⟩, (Fr.sV Fr.rf (Or.inr (by decide))), (hS.go (cs := []) (fs := [(66, 1)]) (Fr.sV Fr.rf (Or.inr (by decide))) (by decide) (by decide) (by show 0 ≤ Int32.toInt z21; omega) (by show Int32.toInt z21 ≤ n; omega)), trivial, (show FgF t n (σ.1 66 1).toInt.toNat (Int32.toInt z21).toNat b z13 from ⟨fun q => by omega, fun q => by omega⟩)⟩
        · refine s_iconst C dX8_figureBelow_43 (by decide) (fun z22 tz22 => ?_)
          exact s_iret C X dX8_figureBelow_44 ⟨hX, Fr.rf, hS, trivial, (show FgF t n (σ.1 66 1).toInt.toNat (Int32.toInt (σ.1 66 1)).toNat b z22 from ⟨fun q => by omega, fun q => by omega⟩)⟩
set_option maxRecDepth 100000 in
theorem f_number (l : Launch) (ad : Nat → Nat) (σ : Sg)  (hX : IX σ.1) (t : Nat → Int32) (n : Nat) (pr : Int) (hS : TS t n pr σ.1)  : Mt l yX8_number cX8_number 4 (some .int) 0 ad σ [.ref (ad 66)] (oI (fun r τ => IX τ.1 ∧ Fr [] [(66, 1)] σ τ ∧ TS t n pr τ.1 ∧ True ∧ NuF t n (pl σ.1) (pl τ.1) r)) := by
  have hS1 := hS.1
  have hS2 := hS.2.1
  have hS3 := hS.2.2.1
  have hS4 := hS.2.2.2.1
  have hS5 := hS.2.2.2.2
  have htl := hX.tl
  have hS6 : (σ.1 66 1).toInt.toNat = pl σ.1 := rfl
  have hb : Int32.toInt (σ.1 67 (σ.1 66 1).toNatClampNeg) = Int32.toInt (t (σ.1 66 1).toInt.toNat) := by rw [hS1]; rfl
  refine Mt_intro (by decide +kernel) (by simp [lg_sl, Value.category]) (fun E C X => ?_)
  show WP E ad 0 [some (.ref (ad 66)), none, none, none] [] σ
  refine s_iconst C dX8_number_0 (by decide) (fun z1 tz1 => ?_)
  refine s_istore_n C dX8_number_1 (by decide) (Nat.le_of_ble_eq_true rfl) rfl ?_
  show WP E ad 2 [some (.ref (ad 66)), some (.int z1), none, none] [] σ
  refine s_iconst C dX8_number_2 (by decide) (fun z2 tz2 => ?_)
  refine s_istore_n C dX8_number_3 (by decide) (Nat.le_of_ble_eq_true rfl) rfl ?_
  show WP E ad 4 [some (.ref (ad 66)), some (.int z1), some (.int z2), none] [] σ
  refine s_iload_n C dX8_number_4 rfl ?_
  refine s_iconst C dX8_number_5 (by decide) (fun z3 tz3 => ?_)
  refine s_icmp_ge (tgt := 76) C dX8_number_6 (by decide) (fun q4 => ?_) (fun q4 => ?_)
  · omega
  · refine s_aload_n C dX8_number_9 rfl ?_
    refine s_get (k := 1) (x := (σ.1 66 1)) C y66 fw_X8_15 rfl rfl dX8_number_10 ?_
    refine s_aload_n C dX8_number_13 rfl ?_
    refine s_get (k := 0) (x := (σ.1 66 0)) C y66 fw_X8_9 rfl rfl dX8_number_14 ?_
    refine s_icmp_ge (tgt := 76) C dX8_number_17 (by decide) (fun q5 => ?_) (fun q5 => ?_)
    · refine s_iload_n C dX8_number_76 rfl ?_
      exact s_iret C X dX8_number_77 ⟨hX, Fr.rf, hS, trivial, (show NuF t n (σ.1 66 1).toInt.toNat (Int32.toInt (σ.1 66 1)).toNat z1 from ⟨fun q => by omega, fun q => by omega⟩)⟩
    · refine s_aload_n C dX8_number_20 rfl ?_
      refine s_getr (k := 2) (j := 67) C y66 fw_X8_18 rfl dX8_number_21 ?_
      refine s_aload_n C dX8_number_24 rfl ?_
      refine s_get (k := 1) (x := (σ.1 66 1)) C y66 fw_X8_15 rfl rfl dX8_number_25 ?_
      refine s_iald (r := (σ.1 67 ((σ.1 66 1).toNatClampNeg))) C y67 (by omega) rfl dX8_number_28 ?_
      skip
      refine s_bipush C dX8_number_29 (by decide) (fun z6 tz6 => ?_)
      skip
      refine s_isubU C dX8_number_31 (fun z7 tz7 => ?_)
      have s48z6 := sub48 tz7 tz6
      refine s_istore_n C dX8_number_32 (by decide) (Nat.le_of_ble_eq_true rfl) rfl ?_
      show WP E ad 33 [some (.ref (ad 66)), some (.int z1), some (.int z2), some (.int z7)] [] σ
      refine s_iload_n C dX8_number_33 rfl ?_
      refine s_if_lt (tgt := 43) C dX8_number_34 (by decide) (fun q8 => ?_) (fun q8 => ?_)
      · refine s_iload_n C dX8_number_43 rfl ?_
        exact s_iret C X dX8_number_44 ⟨hX, Fr.rf, hS, trivial, (show NuF t n (σ.1 66 1).toInt.toNat (Int32.toInt (σ.1 66 1)).toNat z1 from ⟨fun q => by omega, fun q => by omega⟩)⟩
      · refine s_iload_n C dX8_number_37 rfl ?_
        refine s_bipush C dX8_number_38 (by decide) (fun z9 tz9 => ?_)
        refine s_icmp_le (tgt := 45) C dX8_number_40 (by decide) (fun q10 => ?_) (fun q10 => ?_)
        · refine s_iload_n C dX8_number_45 rfl ?_
          refine s_if_ne (tgt := 53) C dX8_number_46 (by decide) (fun q11 => ?_) (fun q11 => ?_)
          · omega
          · refine s_iload_n C dX8_number_49 rfl ?_
            refine s_goto (tgt := 59) C dX8_number_50 (by decide) ?_
            refine s_istore_n C dX8_number_59 (by decide) (Nat.le_of_ble_eq_true rfl) rfl ?_
            show WP E ad 60 [some (.ref (ad 66)), some (.int z7), some (.int z2), some (.int z7)] [] σ
            refine s_aload_n C dX8_number_60 rfl ?_
            refine s_dup C dX8_number_61 rfl ?_
            refine s_get (k := 1) (x := (σ.1 66 1)) C y66 fw_X8_15 rfl rfl dX8_number_62 ?_
            refine s_iconst C dX8_number_65 (by decide) (fun z12 tz12 => ?_)
            refine s_iadd C dX8_number_66 (by omega) (fun z13 tz13 => ?_)
            refine s_put (k := 1) C y66 fw_X8_15 fp_7_1 rfl dX8_number_67 ?_
            refine s_iinc C dX8_number_70 rfl (by decide) rfl (by decide) (by omega) (fun z14 tz14 => ?_)
            show WP E ad 73 [some (.ref (ad 66)), some (.int z7), some (.int z14), some (.int z7)] [] (sV σ 66 1 z13)
            refine s_goto (tgt := 4) C dX8_number_73 (by decide) ?_
            refine s_iload_n C dX8_number_4 rfl ?_
            refine s_iconst C dX8_number_5 (by decide) (fun z15 tz15 => ?_)
            refine s_icmp_ge (tgt := 76) C dX8_number_6 (by decide) (fun q16 => ?_) (fun q16 => ?_)
            · omega
            · refine s_aload_n C dX8_number_9 rfl ?_
              refine s_get (k := 1) (x := z13) C y66 fw_X8_15 rfl rfl dX8_number_10 ?_
              refine s_aload_n C dX8_number_13 rfl ?_
              refine s_get (k := 0) (x := (σ.1 66 0)) C y66 fw_X8_9 rfl rfl dX8_number_14 ?_
              refine s_icmp_ge (tgt := 76) C dX8_number_17 (by decide) (fun q17 => ?_) (fun q17 => ?_)
              · refine s_iload_n C dX8_number_76 rfl ?_
                exact s_iret C X dX8_number_77 ⟨⟨hX.1, hX.2.1, hX.2.2.1, hX.2.2.2.1, hX.2.2.2.2.1, hX.2.2.2.2.2.1, hX.2.2.2.2.2.2.1, hX.2.2.2.2.2.2.2.1, hX.2.2.2.2.2.2.2.2.1, hX.2.2.2.2.2.2.2.2.2.1, hX.2.2.2.2.2.2.2.2.2.2.1, hX.2.2.2.2.2.2.2.2.2.2.2.1, ⟨(by show 0 ≤ Int32.toInt (σ.1 66 0) ∧ Int32.toInt (σ.1 66 0) ≤ 60; omega), (by show 0 ≤ Int32.toInt z13 ∧ Int32.toInt z13 ≤ 60; omega)⟩, hX.2.2.2.2.2.2.2.2.2.2.2.2.2⟩, (Fr.sV Fr.rf (Or.inr (by decide))), (hS.go (cs := []) (fs := [(66, 1)]) (Fr.sV Fr.rf (Or.inr (by decide))) (by decide) (by decide) (by show 0 ≤ Int32.toInt z13; omega) (by show Int32.toInt z13 ≤ n; omega)), trivial, (show NuF t n (σ.1 66 1).toInt.toNat (Int32.toInt z13).toNat z7 from ⟨fun q => by omega, fun q => by omega⟩)⟩
              · refine s_aload_n C dX8_number_20 rfl ?_
                refine s_getr (k := 2) (j := 67) C y66 fw_X8_18 rfl dX8_number_21 ?_
                refine s_aload_n C dX8_number_24 rfl ?_
                refine s_get (k := 1) (x := z13) C y66 fw_X8_15 rfl rfl dX8_number_25 ?_
                refine s_iald (r := (σ.1 67 z13.toNatClampNeg)) C y67 (by omega) rfl dX8_number_28 ?_
                have hb1 : Int32.toInt (σ.1 67 z13.toNatClampNeg) = Int32.toInt (t ((σ.1 66 1).toInt.toNat + 1)) := by rw [hS1, show z13.toNatClampNeg = (σ.1 66 1).toInt.toNat + 1 by unfold Int32.toNatClampNeg; omega]
                refine s_bipush C dX8_number_29 (by decide) (fun z18 tz18 => ?_)
                skip
                refine s_isubU C dX8_number_31 (fun z19 tz19 => ?_)
                have s48z18 := sub48 tz19 tz18
                refine s_istore_n C dX8_number_32 (by decide) (Nat.le_of_ble_eq_true rfl) rfl ?_
                show WP E ad 33 [some (.ref (ad 66)), some (.int z7), some (.int z14), some (.int z19)] [] (sV σ 66 1 z13)
                refine s_iload_n C dX8_number_33 rfl ?_
                refine s_if_lt (tgt := 43) C dX8_number_34 (by decide) (fun q20 => ?_) (fun q20 => ?_)
                · refine s_iload_n C dX8_number_43 rfl ?_
                  exact s_iret C X dX8_number_44 ⟨⟨hX.1, hX.2.1, hX.2.2.1, hX.2.2.2.1, hX.2.2.2.2.1, hX.2.2.2.2.2.1, hX.2.2.2.2.2.2.1, hX.2.2.2.2.2.2.2.1, hX.2.2.2.2.2.2.2.2.1, hX.2.2.2.2.2.2.2.2.2.1, hX.2.2.2.2.2.2.2.2.2.2.1, hX.2.2.2.2.2.2.2.2.2.2.2.1, ⟨(by show 0 ≤ Int32.toInt (σ.1 66 0) ∧ Int32.toInt (σ.1 66 0) ≤ 60; omega), (by show 0 ≤ Int32.toInt z13 ∧ Int32.toInt z13 ≤ 60; omega)⟩, hX.2.2.2.2.2.2.2.2.2.2.2.2.2⟩, (Fr.sV Fr.rf (Or.inr (by decide))), (hS.go (cs := []) (fs := [(66, 1)]) (Fr.sV Fr.rf (Or.inr (by decide))) (by decide) (by decide) (by show 0 ≤ Int32.toInt z13; omega) (by show Int32.toInt z13 ≤ n; omega)), trivial, (show NuF t n (σ.1 66 1).toInt.toNat (Int32.toInt z13).toNat z7 from ⟨fun q => by omega, fun q => by omega⟩)⟩
                · refine s_iload_n C dX8_number_37 rfl ?_
                  refine s_bipush C dX8_number_38 (by decide) (fun z21 tz21 => ?_)
                  refine s_icmp_le (tgt := 45) C dX8_number_40 (by decide) (fun q22 => ?_) (fun q22 => ?_)
                  · refine s_iload_n C dX8_number_45 rfl ?_
                    refine s_if_ne (tgt := 53) C dX8_number_46 (by decide) (fun q23 => ?_) (fun q23 => ?_)
                    · refine s_iload_n C dX8_number_53 rfl ?_
                      refine s_bipush C dX8_number_54 (by decide) (fun z24 tz24 => ?_)
                      refine s_imulR C tz24 dX8_number_56 (by omega) (fun z25 tz25 => ?_)
                      refine s_iload_n C dX8_number_57 rfl ?_
                      refine s_iadd C dX8_number_58 (by omega) (fun z26 tz26 => ?_)
                      refine s_istore_n C dX8_number_59 (by decide) (Nat.le_of_ble_eq_true rfl) rfl ?_
                      show WP E ad 60 [some (.ref (ad 66)), some (.int z26), some (.int z14), some (.int z19)] [] (sV σ 66 1 z13)
                      refine s_aload_n C dX8_number_60 rfl ?_
                      refine s_dup C dX8_number_61 rfl ?_
                      refine s_get (k := 1) (x := z13) C y66 fw_X8_15 rfl rfl dX8_number_62 ?_
                      refine s_iconst C dX8_number_65 (by decide) (fun z27 tz27 => ?_)
                      refine s_iadd C dX8_number_66 (by omega) (fun z28 tz28 => ?_)
                      refine s_put (k := 1) C y66 fw_X8_15 fp_7_1 rfl dX8_number_67 ?_
                      refine s_iinc C dX8_number_70 rfl (by decide) rfl (by decide) (by omega) (fun z29 tz29 => ?_)
                      show WP E ad 73 [some (.ref (ad 66)), some (.int z26), some (.int z29), some (.int z19)] [] (sV (sV σ 66 1 z13) 66 1 z28)
                      refine s_goto (tgt := 4) C dX8_number_73 (by decide) ?_
                      refine s_iload_n C dX8_number_4 rfl ?_
                      refine s_iconst C dX8_number_5 (by decide) (fun z30 tz30 => ?_)
                      refine s_icmp_ge (tgt := 76) C dX8_number_6 (by decide) (fun q31 => ?_) (fun q31 => ?_)
                      · refine s_iload_n C dX8_number_76 rfl ?_
                        exact s_iret C X dX8_number_77 ⟨⟨hX.1, hX.2.1, hX.2.2.1, hX.2.2.2.1, hX.2.2.2.2.1, hX.2.2.2.2.2.1, hX.2.2.2.2.2.2.1, hX.2.2.2.2.2.2.2.1, hX.2.2.2.2.2.2.2.2.1, hX.2.2.2.2.2.2.2.2.2.1, hX.2.2.2.2.2.2.2.2.2.2.1, hX.2.2.2.2.2.2.2.2.2.2.2.1, ⟨(by show 0 ≤ Int32.toInt (σ.1 66 0) ∧ Int32.toInt (σ.1 66 0) ≤ 60; omega), (by show 0 ≤ Int32.toInt z28 ∧ Int32.toInt z28 ≤ 60; omega)⟩, hX.2.2.2.2.2.2.2.2.2.2.2.2.2⟩, (Fr.sV (Fr.sV Fr.rf (Or.inr (by decide))) (Or.inr (by decide))), (hS.go (cs := []) (fs := [(66, 1)]) (Fr.sV (Fr.sV Fr.rf (Or.inr (by decide))) (Or.inr (by decide))) (by decide) (by decide) (by show 0 ≤ Int32.toInt z28; omega) (by show Int32.toInt z28 ≤ n; omega)), trivial, (show NuF t n (σ.1 66 1).toInt.toNat (Int32.toInt z28).toNat z26 from ⟨fun q => by omega, fun q => by omega⟩)⟩
                      · omega
                    · omega
                  · refine s_iload_n C dX8_number_43 rfl ?_
                    exact s_iret C X dX8_number_44 ⟨⟨hX.1, hX.2.1, hX.2.2.1, hX.2.2.2.1, hX.2.2.2.2.1, hX.2.2.2.2.2.1, hX.2.2.2.2.2.2.1, hX.2.2.2.2.2.2.2.1, hX.2.2.2.2.2.2.2.2.1, hX.2.2.2.2.2.2.2.2.2.1, hX.2.2.2.2.2.2.2.2.2.2.1, hX.2.2.2.2.2.2.2.2.2.2.2.1, ⟨(by show 0 ≤ Int32.toInt (σ.1 66 0) ∧ Int32.toInt (σ.1 66 0) ≤ 60; omega), (by show 0 ≤ Int32.toInt z13 ∧ Int32.toInt z13 ≤ 60; omega)⟩, hX.2.2.2.2.2.2.2.2.2.2.2.2.2⟩, (Fr.sV Fr.rf (Or.inr (by decide))), (hS.go (cs := []) (fs := [(66, 1)]) (Fr.sV Fr.rf (Or.inr (by decide))) (by decide) (by decide) (by show 0 ≤ Int32.toInt z13; omega) (by show Int32.toInt z13 ≤ n; omega)), trivial, (show NuF t n (σ.1 66 1).toInt.toNat (Int32.toInt z13).toNat z7 from ⟨fun q => by omega, fun q => by omega⟩)⟩
        · refine s_iload_n C dX8_number_43 rfl ?_
          exact s_iret C X dX8_number_44 ⟨hX, Fr.rf, hS, trivial, (show NuF t n (σ.1 66 1).toInt.toNat (Int32.toInt (σ.1 66 1)).toNat z1 from ⟨fun q => by omega, fun q => by omega⟩)⟩
set_option maxRecDepth 100000 in
theorem f_readUnit (l : Launch) (ad : Nat → Nat) (σ : Sg)  (hX : IX σ.1) (t : Nat → Int32) (n : Nat) (pr : Int) (hS : TS t n pr σ.1)  : Mt l yX1_readUnit cX1_readUnit 3 (some .boolean) 1 ad σ [.ref (ad 68)] (oI (fun r τ => IX τ.1 ∧ Fr [69] [(66, 1), (68, 2)] σ τ ∧ TS t n pr τ.1 ∧ (r.toInt = 0 ∨ r.toInt = 1) ∧ UnF pr t n (pl σ.1) (pl τ.1) r)) := by
  have hS3 := hS.2.2.1
  have hS5 := hS.2.2.2.2
  have hpr := hX.pr
  refine Mt_intro (by decide +kernel) (by simp [lg_sl, Value.category]) (fun E C X => ?_)
  show WP E ad 0 [some (.ref (ad 68)), none, none] [] σ
  refine s_aload_n C dX1_readUnit_0 rfl ?_
  refine s_getr (k := 0) (j := 66) C y68 fw_X1_19 rfl dX1_readUnit_1 ?_
  refine s_bipush C dX1_readUnit_4 (by decide) (fun z1 tz1 => ?_)
  refine s_callVI (st := []) C (f_accept l ad σ z1 hX t n pr hS ) cv_X1_50 y66 rfl rfl rfl ⟨by decide, by decide⟩ (Nat.le_of_ble_eq_true rfl) dX1_readUnit_6 ?_
  intro r2 τ3 h4
  have hXτ3 := h4.1
  have hSτ3 := h4.2.2.1
  have bh4 := h4.2.2.2.1
  have pτ3 : pl τ3.1 ≤ n := hSτ3.2.2.2.2
  have ah4 : AcF t n (pl σ.1) (pl τ3.1) z1 r2 := h4.2.2.2.2
  refine s_if_eq (tgt := 16) C dX1_readUnit_9 (by decide) (fun q5 => ?_) (fun q5 => ?_)
  · obtain ⟨y1h4, y2h4⟩ := ah4.2 (by omega)
    refine s_aload_n C dX1_readUnit_16 rfl ?_
    refine s_getr (k := 0) (j := 66) C y68 fw_X1_19 rfl dX1_readUnit_17 ?_
    refine s_bipush C dX1_readUnit_20 (by decide) (fun z6 tz6 => ?_)
    refine s_callVI (st := []) C (f_accept l ad τ3 z6 hXτ3 t n pr hSτ3 ) cv_X1_50 y66 rfl rfl rfl ⟨by decide, by decide⟩ (Nat.le_of_ble_eq_true rfl) dX1_readUnit_22 ?_
    intro r7 τ8 h9
    have hXτ8 := h9.1
    have hSτ8 := h9.2.2.1
    have bh9 := h9.2.2.2.1
    have pτ8 : pl τ8.1 ≤ n := hSτ8.2.2.2.2
    have ah9 : AcF t n (pl σ.1) (pl τ8.1) z6 r7 := by have q := h9.2.2.2.2; rw [y2h4] at q; exact q
    refine s_if_eq (tgt := 32) C dX1_readUnit_25 (by decide) (fun q10 => ?_) (fun q10 => ?_)
    · obtain ⟨y1h9, y2h9⟩ := ah9.2 (by omega)
      refine s_aload_n C dX1_readUnit_32 rfl ?_
      refine s_getr (k := 0) (j := 66) C y68 fw_X1_19 rfl dX1_readUnit_33 ?_
      refine s_bipush C dX1_readUnit_36 (by decide) (fun z11 tz11 => ?_)
      refine s_callVI (st := []) C (f_accept l ad τ8 z11 hXτ8 t n pr hSτ8 ) cv_X1_50 y66 rfl rfl rfl ⟨by decide, by decide⟩ (Nat.le_of_ble_eq_true rfl) dX1_readUnit_38 ?_
      intro r12 τ13 h14
      have hXτ13 := h14.1
      have hSτ13 := h14.2.2.1
      have bh14 := h14.2.2.2.1
      have pτ13 : pl τ13.1 ≤ n := hSτ13.2.2.2.2
      have ah14 : AcF t n (pl σ.1) (pl τ13.1) z11 r12 := by have q := h14.2.2.2.2; rw [y2h9] at q; exact q
      refine s_if_eq (tgt := 48) C dX1_readUnit_41 (by decide) (fun q15 => ?_) (fun q15 => ?_)
      · obtain ⟨y1h14, y2h14⟩ := ah14.2 (by omega)
        refine s_iconst C dX1_readUnit_48 (by decide) (fun z16 tz16 => ?_)
        refine s_istore_n C dX1_readUnit_49 (by decide) (Nat.le_of_ble_eq_true rfl) rfl ?_
        show WP E ad 50 [some (.ref (ad 68)), some (.int z16), none] [] τ13
        refine s_iconst C dX1_readUnit_50 (by decide) (fun z17 tz17 => ?_)
        refine s_istore_n C dX1_readUnit_51 (by decide) (Nat.le_of_ble_eq_true rfl) rfl ?_
        show WP E ad 52 [some (.ref (ad 68)), some (.int z16), some (.int z17)] [] τ13
        refine s_iload_n C dX1_readUnit_52 rfl ?_
        refine s_iconst C dX1_readUnit_53 (by decide) (fun z18 tz18 => ?_)
        refine s_icmp_eq (tgt := 62) C dX1_readUnit_54 (by decide) (fun q19 => ?_) (fun q19 => ?_)
        · omega
        · refine s_iload_n C dX1_readUnit_57 rfl ?_
          refine s_iconst C dX1_readUnit_58 (by decide) (fun z20 tz20 => ?_)
          refine s_icmp_ne (tgt := 80) C dX1_readUnit_59 (by decide) (fun q21 => ?_) (fun q21 => ?_)
          · refine s_iload_n C dX1_readUnit_80 rfl ?_
            refine s_if_ne (tgt := 92) C dX1_readUnit_81 (by decide) (fun q22 => ?_) (fun q22 => ?_)
            · omega
            · refine s_aload_n C dX1_readUnit_84 rfl ?_
              refine s_getr (k := 0) (j := 66) C y68 fw_X1_19 rfl dX1_readUnit_85 ?_
              refine s_callVI (st := []) C (f_number l ad τ13  hXτ13 t n pr hSτ13 ) cv_X1_86 y66 rfl rfl rfl ⟨by decide, by decide⟩ (Nat.le_of_ble_eq_true rfl) dX1_readUnit_88 ?_
              intro r23 τ24 h25
              have hXτ24 := h25.1
              have hSτ24 := h25.2.2.1
              have bh25 := h25.2.2.2.1
              have pτ24 : pl τ24.1 ≤ n := hSτ24.2.2.2.2
              have ah25 : NuF t n (pl σ.1) (pl τ24.1) r23 := by have q := h25.2.2.2.2; rw [y2h14] at q; exact q
              refine s_istore_n C dX1_readUnit_91 (by decide) (Nat.le_of_ble_eq_true rfl) rfl ?_
              show WP E ad 92 [some (.ref (ad 68)), some (.int z16), some (.int r23)] [] τ24
              refine s_iload_n C dX1_readUnit_92 rfl ?_
              refine s_if_ge (tgt := 98) C dX1_readUnit_93 (by decide) (fun q26 => ?_) (fun q26 => ?_)
              · have gh25 := ah25.1 (by omega)
                refine s_aload_n C dX1_readUnit_98 rfl ?_
                refine s_iload_n C dX1_readUnit_99 rfl ?_
                refine s_iconst C dX1_readUnit_100 (by decide) (fun z27 tz27 => ?_)
                skip
                refine s_ishl C dX1_readUnit_101 (fun z28 tz28 => ?_)
                refine s_iload_n C dX1_readUnit_102 rfl ?_
                skip
                refine s_ior C dX1_readUnit_103 (fun z29 tz29 => ?_)
                refine s_callVV (st := []) C (c_X1_add l ad τ24 z29 hXτ24 (by rw [show z29 = pMk r23 z16 by rw [tz29, tz28, ceq (n := 4) tz27]; rfl]; exact pv_mk (by omega) (by omega) (by omega))) cv_X1_53 y68 rfl rfl rfl ⟨by decide, by decide⟩ (Nat.le_of_ble_eq_true rfl) dX1_readUnit_104 ?_
                intro τ31 h32
                have hXτ31 := h32.1
                have eh32 : τ31.1 66 1 = τ24.1 66 1 := h32.2.1.f 66 1 (by decide) (by decide)
                have kτ31 : pl τ31.1 = (pl τ24.1) := congrArg (fun z : Int32 => z.toInt.toNat) eh32
                have hSτ31 : TS t n pr τ31.1 := hSτ24.go h32.2.1 (by decide) (by decide) (by rw [eh32]; have := hSτ24.2.2.2.1; omega) (by rw [eh32]; have := hSτ24.2.2.2; omega)
                have pτ31 : pl τ31.1 ≤ n := hSτ31.2.2.2.2
                refine s_iconst C dX1_readUnit_107 (by decide) (fun z33 tz33 => ?_)
                exact s_zret C (by omega) X dX1_readUnit_108 ⟨hXτ31, (Fr.tr (Fr.tr (Fr.tr (Fr.tr (Fr.tr Fr.rf (Fr.mo h4.2.1 (by decide) (by decide))) (Fr.mo h9.2.1 (by decide) (by decide))) (Fr.mo h14.2.1 (by decide) (by decide))) (Fr.mo h25.2.1 (by decide) (by decide))) (Fr.mo h32.2.1 (by decide) (by decide))), hSτ31, by omega, (by rw [kτ31]; exact (show UnF pr t n (pl σ.1) (pl τ24.1) z33 from ⟨fun _ => by first | (rw [bu_m (by omega) (by omega)]; omega) | (rw [bu_x (by omega) (by omega) (by omega)]; omega) | (exact bu_f (by omega) (by omega) (by omega)), fun q => by omega⟩))⟩
              · obtain ⟨g1h25, g2h25⟩ := ah25.2 (by omega)
                refine s_iconst C dX1_readUnit_96 (by decide) (fun z34 tz34 => ?_)
                exact s_zret C (by omega) X dX1_readUnit_97 ⟨hXτ24, (Fr.tr (Fr.tr (Fr.tr (Fr.tr Fr.rf (Fr.mo h4.2.1 (by decide) (by decide))) (Fr.mo h9.2.1 (by decide) (by decide))) (Fr.mo h14.2.1 (by decide) (by decide))) (Fr.mo h25.2.1 (by decide) (by decide))), hSτ24, by omega, (by rw [g1h25]; exact (show UnF pr t n (pl σ.1) (pl σ.1) z34 from ⟨fun q => by omega, fun _ => by first | exact bu_0 (by omega) | (rw [bu_0 (by omega)]; omega) | (rw [bu_y (by omega) (by omega) (by omega)]; omega)⟩))⟩
          · omega
      · obtain ⟨x1h14, x2h14, x3h14⟩ := ah14.1 (by omega)
        refine s_iconst C dX1_readUnit_44 (by decide) (fun z35 tz35 => ?_)
        refine s_goto (tgt := 49) C dX1_readUnit_45 (by decide) ?_
        refine s_istore_n C dX1_readUnit_49 (by decide) (Nat.le_of_ble_eq_true rfl) rfl ?_
        show WP E ad 50 [some (.ref (ad 68)), some (.int z35), none] [] τ13
        refine s_iconst C dX1_readUnit_50 (by decide) (fun z36 tz36 => ?_)
        refine s_istore_n C dX1_readUnit_51 (by decide) (Nat.le_of_ble_eq_true rfl) rfl ?_
        show WP E ad 52 [some (.ref (ad 68)), some (.int z35), some (.int z36)] [] τ13
        refine s_iload_n C dX1_readUnit_52 rfl ?_
        refine s_iconst C dX1_readUnit_53 (by decide) (fun z37 tz37 => ?_)
        refine s_icmp_eq (tgt := 62) C dX1_readUnit_54 (by decide) (fun q38 => ?_) (fun q38 => ?_)
        · omega
        · refine s_iload_n C dX1_readUnit_57 rfl ?_
          refine s_iconst C dX1_readUnit_58 (by decide) (fun z39 tz39 => ?_)
          refine s_icmp_ne (tgt := 80) C dX1_readUnit_59 (by decide) (fun q40 => ?_) (fun q40 => ?_)
          · refine s_iload_n C dX1_readUnit_80 rfl ?_
            refine s_if_ne (tgt := 92) C dX1_readUnit_81 (by decide) (fun q41 => ?_) (fun q41 => ?_)
            · refine s_iload_n C dX1_readUnit_92 rfl ?_
              refine s_if_ge (tgt := 98) C dX1_readUnit_93 (by decide) (fun q42 => ?_) (fun q42 => ?_)
              · refine s_aload_n C dX1_readUnit_98 rfl ?_
                refine s_iload_n C dX1_readUnit_99 rfl ?_
                refine s_iconst C dX1_readUnit_100 (by decide) (fun z43 tz43 => ?_)
                skip
                refine s_ishl C dX1_readUnit_101 (fun z44 tz44 => ?_)
                refine s_iload_n C dX1_readUnit_102 rfl ?_
                skip
                refine s_ior C dX1_readUnit_103 (fun z45 tz45 => ?_)
                refine s_callVV (st := []) C (c_X1_add l ad τ13 z45 hXτ13 (by rw [show z45 = pMk z36 z35 by rw [tz45, tz44, ceq (n := 4) tz43]; rfl]; exact pv_mk (by omega) (by omega) (by omega))) cv_X1_53 y68 rfl rfl rfl ⟨by decide, by decide⟩ (Nat.le_of_ble_eq_true rfl) dX1_readUnit_104 ?_
                intro τ47 h48
                have hXτ47 := h48.1
                have eh48 : τ47.1 66 1 = τ13.1 66 1 := h48.2.1.f 66 1 (by decide) (by decide)
                have kτ47 : pl τ47.1 = ((pl σ.1) + 1) := (congrArg (fun z : Int32 => z.toInt.toNat) eh48).trans x3h14
                have hSτ47 : TS t n pr τ47.1 := hSτ13.go h48.2.1 (by decide) (by decide) (by rw [eh48]; have := hSτ13.2.2.2.1; omega) (by rw [eh48]; have := hSτ13.2.2.2; omega)
                have pτ47 : pl τ47.1 ≤ n := hSτ47.2.2.2.2
                refine s_iconst C dX1_readUnit_107 (by decide) (fun z49 tz49 => ?_)
                exact s_zret C (by omega) X dX1_readUnit_108 ⟨hXτ47, (Fr.tr (Fr.tr (Fr.tr (Fr.tr Fr.rf (Fr.mo h4.2.1 (by decide) (by decide))) (Fr.mo h9.2.1 (by decide) (by decide))) (Fr.mo h14.2.1 (by decide) (by decide))) (Fr.mo h48.2.1 (by decide) (by decide))), hSτ47, by omega, (by rw [kτ47]; exact (show UnF pr t n (pl σ.1) ((pl σ.1) + 1) z49 from ⟨fun _ => by first | (rw [bu_m (by omega) (by omega)]; omega) | (rw [bu_x (by omega) (by omega) (by omega)]; omega) | (exact bu_f (by omega) (by omega) (by omega)), fun q => by omega⟩))⟩
              · omega
            · omega
          · omega
    · obtain ⟨x1h9, x2h9, x3h9⟩ := ah9.1 (by omega)
      refine s_iconst C dX1_readUnit_28 (by decide) (fun z50 tz50 => ?_)
      refine s_goto (tgt := 49) C dX1_readUnit_29 (by decide) ?_
      refine s_istore_n C dX1_readUnit_49 (by decide) (Nat.le_of_ble_eq_true rfl) rfl ?_
      show WP E ad 50 [some (.ref (ad 68)), some (.int z50), none] [] τ8
      refine s_iconst C dX1_readUnit_50 (by decide) (fun z51 tz51 => ?_)
      refine s_istore_n C dX1_readUnit_51 (by decide) (Nat.le_of_ble_eq_true rfl) rfl ?_
      show WP E ad 52 [some (.ref (ad 68)), some (.int z50), some (.int z51)] [] τ8
      refine s_iload_n C dX1_readUnit_52 rfl ?_
      refine s_iconst C dX1_readUnit_53 (by decide) (fun z52 tz52 => ?_)
      refine s_icmp_eq (tgt := 62) C dX1_readUnit_54 (by decide) (fun q53 => ?_) (fun q53 => ?_)
      · omega
      · refine s_iload_n C dX1_readUnit_57 rfl ?_
        refine s_iconst C dX1_readUnit_58 (by decide) (fun z54 tz54 => ?_)
        refine s_icmp_ne (tgt := 80) C dX1_readUnit_59 (by decide) (fun q55 => ?_) (fun q55 => ?_)
        · omega
        · refine s_aload_n C dX1_readUnit_62 rfl ?_
          refine s_getr (k := 0) (j := 66) C y68 fw_X1_19 rfl dX1_readUnit_63 ?_
          refine s_aload_n C dX1_readUnit_66 rfl ?_
          refine s_getr (k := 1) (j := 1) C y68 fw_X1_23 rfl dX1_readUnit_67 ?_
          refine s_get (k := 0) (x := (τ8.1 1 0)) C y1 fw_X1_77 rfl rfl dX1_readUnit_70 ?_
          have hprτ8 := hXτ8.pr
          have hS3τ8 := hSτ8.2.2.1
          refine s_callVI (st := []) C (f_figureBelow l ad τ8 ((τ8.1 1 0)) hXτ8 t n pr hSτ8 ) cv_X1_82 y66 rfl rfl rfl ⟨by decide, by decide⟩ (Nat.le_of_ble_eq_true rfl) dX1_readUnit_73 ?_
          intro r56 τ57 h58
          have hXτ57 := h58.1
          have hSτ57 := h58.2.2.1
          have bh58 := h58.2.2.2.1
          have pτ57 : pl τ57.1 ≤ n := hSτ57.2.2.2.2
          have ah58 : FgF t n ((pl σ.1) + 1) (pl τ57.1) (τ8.1 1 0) r56 := by have q := h58.2.2.2.2; rw [x3h9] at q; exact q
          refine s_istore_n C dX1_readUnit_76 (by decide) (Nat.le_of_ble_eq_true rfl) rfl ?_
          show WP E ad 77 [some (.ref (ad 68)), some (.int z50), some (.int r56)] [] τ57
          refine s_goto (tgt := 92) C dX1_readUnit_77 (by decide) ?_
          refine s_iload_n C dX1_readUnit_92 rfl ?_
          refine s_if_ge (tgt := 98) C dX1_readUnit_93 (by decide) (fun q59 => ?_) (fun q59 => ?_)
          · obtain ⟨g1h58, g2h58, g3h58, g4h58, g5h58⟩ := ah58.1 (by omega)
            refine s_aload_n C dX1_readUnit_98 rfl ?_
            refine s_iload_n C dX1_readUnit_99 rfl ?_
            refine s_iconst C dX1_readUnit_100 (by decide) (fun z60 tz60 => ?_)
            skip
            refine s_ishl C dX1_readUnit_101 (fun z61 tz61 => ?_)
            refine s_iload_n C dX1_readUnit_102 rfl ?_
            skip
            refine s_ior C dX1_readUnit_103 (fun z62 tz62 => ?_)
            refine s_callVV (st := []) C (c_X1_add l ad τ57 z62 hXτ57 (by rw [show z62 = pMk r56 z50 by rw [tz62, tz61, ceq (n := 4) tz60]; rfl]; exact pv_mk (by omega) (by omega) (by omega))) cv_X1_53 y68 rfl rfl rfl ⟨by decide, by decide⟩ (Nat.le_of_ble_eq_true rfl) dX1_readUnit_104 ?_
            intro τ64 h65
            have hXτ64 := h65.1
            have eh65 : τ64.1 66 1 = τ57.1 66 1 := h65.2.1.f 66 1 (by decide) (by decide)
            have kτ64 : pl τ64.1 = (((pl σ.1) + 1) + 1) := (congrArg (fun z : Int32 => z.toInt.toNat) eh65).trans g5h58
            have hSτ64 : TS t n pr τ64.1 := hSτ57.go h65.2.1 (by decide) (by decide) (by rw [eh65]; have := hSτ57.2.2.2.1; omega) (by rw [eh65]; have := hSτ57.2.2.2; omega)
            have pτ64 : pl τ64.1 ≤ n := hSτ64.2.2.2.2
            refine s_iconst C dX1_readUnit_107 (by decide) (fun z66 tz66 => ?_)
            exact s_zret C (by omega) X dX1_readUnit_108 ⟨hXτ64, (Fr.tr (Fr.tr (Fr.tr (Fr.tr Fr.rf (Fr.mo h4.2.1 (by decide) (by decide))) (Fr.mo h9.2.1 (by decide) (by decide))) (Fr.mo h58.2.1 (by decide) (by decide))) (Fr.mo h65.2.1 (by decide) (by decide))), hSτ64, by omega, (by rw [kτ64]; exact (show UnF pr t n (pl σ.1) (((pl σ.1) + 1) + 1) z66 from ⟨fun _ => by first | (rw [bu_m (by omega) (by omega)]; omega) | (rw [bu_x (by omega) (by omega) (by omega)]; omega) | (exact bu_f (by omega) (by omega) (by omega)), fun q => by omega⟩))⟩
          · obtain ⟨g1h58, g2h58⟩ := ah58.2 (by omega)
            refine s_iconst C dX1_readUnit_96 (by decide) (fun z67 tz67 => ?_)
            exact s_zret C (by omega) X dX1_readUnit_97 ⟨hXτ57, (Fr.tr (Fr.tr (Fr.tr Fr.rf (Fr.mo h4.2.1 (by decide) (by decide))) (Fr.mo h9.2.1 (by decide) (by decide))) (Fr.mo h58.2.1 (by decide) (by decide))), hSτ57, by omega, (by rw [g1h58]; exact (show UnF pr t n (pl σ.1) ((pl σ.1) + 1) z67 from ⟨fun q => by omega, fun _ => by first | exact bu_0 (by omega) | (rw [bu_0 (by omega)]; omega) | (rw [bu_y (by omega) (by omega) (by omega)]; omega)⟩))⟩
  · obtain ⟨x1h4, x2h4, x3h4⟩ := ah4.1 (by omega)
    refine s_iconst C dX1_readUnit_12 (by decide) (fun z68 tz68 => ?_)
    refine s_goto (tgt := 49) C dX1_readUnit_13 (by decide) ?_
    refine s_istore_n C dX1_readUnit_49 (by decide) (Nat.le_of_ble_eq_true rfl) rfl ?_
    show WP E ad 50 [some (.ref (ad 68)), some (.int z68), none] [] τ3
    refine s_iconst C dX1_readUnit_50 (by decide) (fun z69 tz69 => ?_)
    refine s_istore_n C dX1_readUnit_51 (by decide) (Nat.le_of_ble_eq_true rfl) rfl ?_
    show WP E ad 52 [some (.ref (ad 68)), some (.int z68), some (.int z69)] [] τ3
    refine s_iload_n C dX1_readUnit_52 rfl ?_
    refine s_iconst C dX1_readUnit_53 (by decide) (fun z70 tz70 => ?_)
    refine s_icmp_eq (tgt := 62) C dX1_readUnit_54 (by decide) (fun q71 => ?_) (fun q71 => ?_)
    · refine s_aload_n C dX1_readUnit_62 rfl ?_
      refine s_getr (k := 0) (j := 66) C y68 fw_X1_19 rfl dX1_readUnit_63 ?_
      refine s_aload_n C dX1_readUnit_66 rfl ?_
      refine s_getr (k := 1) (j := 1) C y68 fw_X1_23 rfl dX1_readUnit_67 ?_
      refine s_get (k := 0) (x := (τ3.1 1 0)) C y1 fw_X1_77 rfl rfl dX1_readUnit_70 ?_
      have hprτ3 := hXτ3.pr
      have hS3τ3 := hSτ3.2.2.1
      refine s_callVI (st := []) C (f_figureBelow l ad τ3 ((τ3.1 1 0)) hXτ3 t n pr hSτ3 ) cv_X1_82 y66 rfl rfl rfl ⟨by decide, by decide⟩ (Nat.le_of_ble_eq_true rfl) dX1_readUnit_73 ?_
      intro r72 τ73 h74
      have hXτ73 := h74.1
      have hSτ73 := h74.2.2.1
      have bh74 := h74.2.2.2.1
      have pτ73 : pl τ73.1 ≤ n := hSτ73.2.2.2.2
      have ah74 : FgF t n ((pl σ.1) + 1) (pl τ73.1) (τ3.1 1 0) r72 := by have q := h74.2.2.2.2; rw [x3h4] at q; exact q
      refine s_istore_n C dX1_readUnit_76 (by decide) (Nat.le_of_ble_eq_true rfl) rfl ?_
      show WP E ad 77 [some (.ref (ad 68)), some (.int z68), some (.int r72)] [] τ73
      refine s_goto (tgt := 92) C dX1_readUnit_77 (by decide) ?_
      refine s_iload_n C dX1_readUnit_92 rfl ?_
      refine s_if_ge (tgt := 98) C dX1_readUnit_93 (by decide) (fun q75 => ?_) (fun q75 => ?_)
      · obtain ⟨g1h74, g2h74, g3h74, g4h74, g5h74⟩ := ah74.1 (by omega)
        refine s_aload_n C dX1_readUnit_98 rfl ?_
        refine s_iload_n C dX1_readUnit_99 rfl ?_
        refine s_iconst C dX1_readUnit_100 (by decide) (fun z76 tz76 => ?_)
        skip
        refine s_ishl C dX1_readUnit_101 (fun z77 tz77 => ?_)
        refine s_iload_n C dX1_readUnit_102 rfl ?_
        skip
        refine s_ior C dX1_readUnit_103 (fun z78 tz78 => ?_)
        refine s_callVV (st := []) C (c_X1_add l ad τ73 z78 hXτ73 (by rw [show z78 = pMk r72 z68 by rw [tz78, tz77, ceq (n := 4) tz76]; rfl]; exact pv_mk (by omega) (by omega) (by omega))) cv_X1_53 y68 rfl rfl rfl ⟨by decide, by decide⟩ (Nat.le_of_ble_eq_true rfl) dX1_readUnit_104 ?_
        intro τ80 h81
        have hXτ80 := h81.1
        have eh81 : τ80.1 66 1 = τ73.1 66 1 := h81.2.1.f 66 1 (by decide) (by decide)
        have kτ80 : pl τ80.1 = (((pl σ.1) + 1) + 1) := (congrArg (fun z : Int32 => z.toInt.toNat) eh81).trans g5h74
        have hSτ80 : TS t n pr τ80.1 := hSτ73.go h81.2.1 (by decide) (by decide) (by rw [eh81]; have := hSτ73.2.2.2.1; omega) (by rw [eh81]; have := hSτ73.2.2.2; omega)
        have pτ80 : pl τ80.1 ≤ n := hSτ80.2.2.2.2
        refine s_iconst C dX1_readUnit_107 (by decide) (fun z82 tz82 => ?_)
        exact s_zret C (by omega) X dX1_readUnit_108 ⟨hXτ80, (Fr.tr (Fr.tr (Fr.tr Fr.rf (Fr.mo h4.2.1 (by decide) (by decide))) (Fr.mo h74.2.1 (by decide) (by decide))) (Fr.mo h81.2.1 (by decide) (by decide))), hSτ80, by omega, (by rw [kτ80]; exact (show UnF pr t n (pl σ.1) (((pl σ.1) + 1) + 1) z82 from ⟨fun _ => by first | (rw [bu_m (by omega) (by omega)]; omega) | (rw [bu_x (by omega) (by omega) (by omega)]; omega) | (exact bu_f (by omega) (by omega) (by omega)), fun q => by omega⟩))⟩
      · obtain ⟨g1h74, g2h74⟩ := ah74.2 (by omega)
        refine s_iconst C dX1_readUnit_96 (by decide) (fun z83 tz83 => ?_)
        exact s_zret C (by omega) X dX1_readUnit_97 ⟨hXτ73, (Fr.tr (Fr.tr Fr.rf (Fr.mo h4.2.1 (by decide) (by decide))) (Fr.mo h74.2.1 (by decide) (by decide))), hSτ73, by omega, (by rw [g1h74]; exact (show UnF pr t n (pl σ.1) ((pl σ.1) + 1) z83 from ⟨fun q => by omega, fun _ => by first | exact bu_0 (by omega) | (rw [bu_0 (by omega)]; omega) | (rw [bu_y (by omega) (by omega) (by omega)]; omega)⟩))⟩
    · omega
set_option maxRecDepth 100000 in
theorem L_fSum (l : Launch) (ad : Nat → Nat) (E : Ev) (σ : Sg) (t : Nat → Int32) (n : Nat) (pr : Int)  (C : Cx E l (rmk 2) 3 cX1_readSum RX1) (X : Rx E ad (some .boolean) (oI (fun r τ => IX τ.1 ∧ Fr [69] [(66, 1), (68, 2)] σ τ ∧ TS t n pr τ.1 ∧ (r.toInt = 0 ∨ r.toInt = 1) ∧ SmF pr t n (pl σ.1) (pl τ.1) r)))  : ∀ (mm : Nat) (τ : Sg) (z : Int32), (Fr [69] [(66, 1), (68, 2)] σ τ) → (IX τ.1) → (TS t n pr τ.1) → (0 ≤ z.toInt ∧ z.toInt ≤ pl τ.1) → (∀ (s : Nat) (o : List Bool), s = 1 ∨ s = 2 → Uu pr t n s o (pl σ.1) = Au pr t n s o (pl τ.1)) → (pl σ.1 < pl τ.1) → (60 - z.toInt).toNat < mm → WP E ad 11 [some (.ref (ad 68)), some (.int z), none] [] τ := by
  intro mm
  induction mm with
  | zero => intro τ z kF hXτ hSτ h0 hU hgt hm9; exact absurd hm9 (Nat.not_lt_zero _)
  | succ mm ih =>
    intro τ z kF hXτ hSτ h0 hU hgt hm9
    have hS5 : pl τ.1 ≤ n := hSτ.2.2.2.2
    have hn60 : n ≤ 60 := by have q1 := hXτ.tl; have q2 := hSτ.2.1; omega
    refine s_iload_n C dX1_readSum_11 rfl ?_
    refine s_bipush C dX1_readSum_12 (by decide) (fun z1 tz1 => ?_)
    refine s_icmp_ge (tgt := 77) C dX1_readSum_14 (by decide) (fun q2 => ?_) (fun q2 => ?_)
    · skip
      refine s_iconst C dX1_readSum_77 (by decide) (fun z3 tz3 => ?_)
      exact s_zret C (by omega) X dX1_readSum_78 ⟨hXτ, (Fr.tr Fr.rf (Fr.mo kF (by decide) (by decide))), hSτ, by omega, (fun s o hs => ⟨fun _ => ⟨hU s o hs, by omega, hgt⟩, fun q => by omega⟩)⟩
    · refine s_aload_n C dX1_readSum_17 rfl ?_
      refine s_getr (k := 0) (j := 66) C y68 fw_X1_19 rfl dX1_readSum_18 ?_
      refine s_bipush C dX1_readSum_21 (by decide) (fun z4 tz4 => ?_)
      refine s_callVI (st := []) C (f_accept l ad τ z4 hXτ t n pr hSτ ) cv_X1_50 y66 rfl rfl rfl ⟨by decide, by decide⟩ (Nat.le_of_ble_eq_true rfl) dX1_readSum_23 ?_
      intro r5 τ6 h7
      have hXτ6 := h7.1
      have hSτ6 := h7.2.2.1
      have bh7 := h7.2.2.2.1
      have pτ6 : pl τ6.1 ≤ n := hSτ6.2.2.2.2
      have ah7 : AcF t n (pl τ.1) (pl τ6.1) z4 r5 := h7.2.2.2.2
      refine s_if_eq (tgt := 33) C dX1_readSum_26 (by decide) (fun q8 => ?_) (fun q8 => ?_)
      · obtain ⟨y1h7, y2h7⟩ := ah7.2 (by omega)
        refine s_aload_n C dX1_readSum_33 rfl ?_
        refine s_getr (k := 0) (j := 66) C y68 fw_X1_19 rfl dX1_readSum_34 ?_
        refine s_bipush C dX1_readSum_37 (by decide) (fun z9 tz9 => ?_)
        refine s_callVI (st := []) C (f_accept l ad τ6 z9 hXτ6 t n pr hSτ6 ) cv_X1_50 y66 rfl rfl rfl ⟨by decide, by decide⟩ (Nat.le_of_ble_eq_true rfl) dX1_readSum_39 ?_
        intro r10 τ11 h12
        have hXτ11 := h12.1
        have hSτ11 := h12.2.2.1
        have bh12 := h12.2.2.2.1
        have pτ11 : pl τ11.1 ≤ n := hSτ11.2.2.2.2
        have ah12 : AcF t n (pl τ.1) (pl τ11.1) z9 r10 := by have q := h12.2.2.2.2; rw [y2h7] at q; exact q
        refine s_if_eq (tgt := 49) C dX1_readSum_42 (by decide) (fun q13 => ?_) (fun q13 => ?_)
        · obtain ⟨y1h12, y2h12⟩ := ah12.2 (by omega)
          refine s_iconst C dX1_readSum_49 (by decide) (fun z14 tz14 => ?_)
          refine s_istore_n C dX1_readSum_50 (by decide) (Nat.le_of_ble_eq_true rfl) rfl ?_
          show WP E ad 51 [some (.ref (ad 68)), some (.int z), some (.int z14)] [] τ11
          refine s_iload_n C dX1_readSum_51 rfl ?_
          refine s_if_ge (tgt := 57) C dX1_readSum_52 (by decide) (fun q15 => ?_) (fun q15 => ?_)
          · omega
          · skip
            refine s_iconst C dX1_readSum_55 (by decide) (fun z16 tz16 => ?_)
            exact s_zret C (by omega) X dX1_readSum_56 ⟨hXτ11, (Fr.tr (Fr.tr (Fr.tr Fr.rf (Fr.mo kF (by decide) (by decide))) (Fr.mo h7.2.1 (by decide) (by decide))) (Fr.mo h12.2.1 (by decide) (by decide))), hSτ11, by omega, (by rw [y2h12]; exact (fun s o hs => ⟨fun _ => ⟨hU s o hs, by omega, hgt⟩, fun q => by omega⟩))⟩
        · obtain ⟨x1h12, x2h12, x3h12⟩ := ah12.1 (by omega)
          refine s_iconst C dX1_readSum_45 (by decide) (fun z17 tz17 => ?_)
          refine s_goto (tgt := 50) C dX1_readSum_46 (by decide) ?_
          refine s_istore_n C dX1_readSum_50 (by decide) (Nat.le_of_ble_eq_true rfl) rfl ?_
          show WP E ad 51 [some (.ref (ad 68)), some (.int z), some (.int z17)] [] τ11
          refine s_iload_n C dX1_readSum_51 rfl ?_
          refine s_if_ge (tgt := 57) C dX1_readSum_52 (by decide) (fun q18 => ?_) (fun q18 => ?_)
          · refine s_aload_n C dX1_readSum_57 rfl ?_
            refine s_callVI (st := []) C (f_readUnit l ad τ11  hXτ11 t n pr hSτ11 ) cv_X1_74 y68 rfl rfl rfl ⟨by decide, by decide⟩ (Nat.le_of_ble_eq_true rfl) dX1_readSum_58 ?_
            intro r19 τ20 h21
            have hXτ20 := h21.1
            have hSτ20 := h21.2.2.1
            have bh21 := h21.2.2.2.1
            have pτ20 : pl τ20.1 ≤ n := hSτ20.2.2.2.2
            have ah21 : UnF pr t n ((pl τ.1) + 1) (pl τ20.1) r19 := by have q := h21.2.2.2.2; rw [x3h12] at q; exact q
            refine s_if_ne (tgt := 66) C dX1_readSum_61 (by decide) (fun q22 => ?_) (fun q22 => ?_)
            · have uh21 := ah21.1 (by omega)
              have ugh21 : ((pl τ.1) + 1) < pl τ20.1 := by have q := bu_gt (pr := pr) (t := t) (n := n) (k := ((pl τ.1) + 1)) (by rw [uh21]; omega); rw [uh21] at q; omega
              refine s_aload_n C dX1_readSum_66 rfl ?_
              refine s_iload_n C dX1_readSum_67 rfl ?_
              refine s_callVV (st := []) C (c_X1_add l ad τ20 z17 hXτ20 (pv_op (by omega))) cv_X1_53 y68 rfl rfl rfl ⟨by decide, by decide⟩ (Nat.le_of_ble_eq_true rfl) dX1_readSum_68 ?_
              intro τ24 h25
              have hXτ24 := h25.1
              have eh25 : τ24.1 66 1 = τ20.1 66 1 := h25.2.1.f 66 1 (by decide) (by decide)
              have kτ24 : pl τ24.1 = (pl τ20.1) := congrArg (fun z : Int32 => z.toInt.toNat) eh25
              have hSτ24 : TS t n pr τ24.1 := hSτ20.go h25.2.1 (by decide) (by decide) (by rw [eh25]; have := hSτ20.2.2.2.1; omega) (by rw [eh25]; have := hSτ20.2.2.2; omega)
              have pτ24 : pl τ24.1 ≤ n := hSτ24.2.2.2.2
              refine s_iinc C dX1_readSum_71 rfl (by decide) rfl (by decide) (by omega) (fun z26 tz26 => ?_)
              show WP E ad 74 [some (.ref (ad 68)), some (.int z26), some (.int z17)] [] τ24
              refine s_goto (tgt := 11) C dX1_readSum_74 (by decide) ?_
              refine wp_le (lv' := [some (.ref (ad 68)), some (.int z26), none]) ⟨rfl, ⟨rfl, trivial⟩⟩ ?_
              exact ih τ24 z26 (Fr.tr (Fr.tr (Fr.tr (Fr.tr (Fr.tr Fr.rf (Fr.mo kF (by decide) (by decide))) (Fr.mo h7.2.1 (by decide) (by decide))) (Fr.mo h12.2.1 (by decide) (by decide))) (Fr.mo h21.2.1 (by decide) (by decide))) (Fr.mo h25.2.1 (by decide) (by decide))) hXτ24 hSτ24 (by omega) (fun s o hs => by rw [hU s o hs, A_plus x1h12 (by omega) hs, Uu_ok uh21, kτ24]) (by omega) (by omega)
            · have uh21 := ah21.2 (by omega)
              skip
              refine s_iconst C dX1_readSum_64 (by decide) (fun z27 tz27 => ?_)
              exact s_zret C (by omega) X dX1_readSum_65 ⟨hXτ20, (Fr.tr (Fr.tr (Fr.tr (Fr.tr Fr.rf (Fr.mo kF (by decide) (by decide))) (Fr.mo h7.2.1 (by decide) (by decide))) (Fr.mo h12.2.1 (by decide) (by decide))) (Fr.mo h21.2.1 (by decide) (by decide))), hSτ20, by omega, (fun s o hs => ⟨fun q => by omega, fun _ => by rw [hU s o hs, A_plus x1h12 (by omega) hs, Uu_no uh21]⟩)⟩
          · omega
      · obtain ⟨x1h7, x2h7, x3h7⟩ := ah7.1 (by omega)
        refine s_iconst C dX1_readSum_29 (by decide) (fun z28 tz28 => ?_)
        refine s_goto (tgt := 50) C dX1_readSum_30 (by decide) ?_
        refine s_istore_n C dX1_readSum_50 (by decide) (Nat.le_of_ble_eq_true rfl) rfl ?_
        show WP E ad 51 [some (.ref (ad 68)), some (.int z), some (.int z28)] [] τ6
        refine s_iload_n C dX1_readSum_51 rfl ?_
        refine s_if_ge (tgt := 57) C dX1_readSum_52 (by decide) (fun q29 => ?_) (fun q29 => ?_)
        · refine s_aload_n C dX1_readSum_57 rfl ?_
          refine s_callVI (st := []) C (f_readUnit l ad τ6  hXτ6 t n pr hSτ6 ) cv_X1_74 y68 rfl rfl rfl ⟨by decide, by decide⟩ (Nat.le_of_ble_eq_true rfl) dX1_readSum_58 ?_
          intro r30 τ31 h32
          have hXτ31 := h32.1
          have hSτ31 := h32.2.2.1
          have bh32 := h32.2.2.2.1
          have pτ31 : pl τ31.1 ≤ n := hSτ31.2.2.2.2
          have ah32 : UnF pr t n ((pl τ.1) + 1) (pl τ31.1) r30 := by have q := h32.2.2.2.2; rw [x3h7] at q; exact q
          refine s_if_ne (tgt := 66) C dX1_readSum_61 (by decide) (fun q33 => ?_) (fun q33 => ?_)
          · have uh32 := ah32.1 (by omega)
            have ugh32 : ((pl τ.1) + 1) < pl τ31.1 := by have q := bu_gt (pr := pr) (t := t) (n := n) (k := ((pl τ.1) + 1)) (by rw [uh32]; omega); rw [uh32] at q; omega
            refine s_aload_n C dX1_readSum_66 rfl ?_
            refine s_iload_n C dX1_readSum_67 rfl ?_
            refine s_callVV (st := []) C (c_X1_add l ad τ31 z28 hXτ31 (pv_op (by omega))) cv_X1_53 y68 rfl rfl rfl ⟨by decide, by decide⟩ (Nat.le_of_ble_eq_true rfl) dX1_readSum_68 ?_
            intro τ35 h36
            have hXτ35 := h36.1
            have eh36 : τ35.1 66 1 = τ31.1 66 1 := h36.2.1.f 66 1 (by decide) (by decide)
            have kτ35 : pl τ35.1 = (pl τ31.1) := congrArg (fun z : Int32 => z.toInt.toNat) eh36
            have hSτ35 : TS t n pr τ35.1 := hSτ31.go h36.2.1 (by decide) (by decide) (by rw [eh36]; have := hSτ31.2.2.2.1; omega) (by rw [eh36]; have := hSτ31.2.2.2; omega)
            have pτ35 : pl τ35.1 ≤ n := hSτ35.2.2.2.2
            refine s_iinc C dX1_readSum_71 rfl (by decide) rfl (by decide) (by omega) (fun z37 tz37 => ?_)
            show WP E ad 74 [some (.ref (ad 68)), some (.int z37), some (.int z28)] [] τ35
            refine s_goto (tgt := 11) C dX1_readSum_74 (by decide) ?_
            refine wp_le (lv' := [some (.ref (ad 68)), some (.int z37), none]) ⟨rfl, ⟨rfl, trivial⟩⟩ ?_
            exact ih τ35 z37 (Fr.tr (Fr.tr (Fr.tr (Fr.tr Fr.rf (Fr.mo kF (by decide) (by decide))) (Fr.mo h7.2.1 (by decide) (by decide))) (Fr.mo h32.2.1 (by decide) (by decide))) (Fr.mo h36.2.1 (by decide) (by decide))) hXτ35 hSτ35 (by omega) (fun s o hs => by rw [hU s o hs, A_plus x1h7 (by omega) hs, Uu_ok uh32, kτ35]) (by omega) (by omega)
          · have uh32 := ah32.2 (by omega)
            skip
            refine s_iconst C dX1_readSum_64 (by decide) (fun z38 tz38 => ?_)
            exact s_zret C (by omega) X dX1_readSum_65 ⟨hXτ31, (Fr.tr (Fr.tr (Fr.tr Fr.rf (Fr.mo kF (by decide) (by decide))) (Fr.mo h7.2.1 (by decide) (by decide))) (Fr.mo h32.2.1 (by decide) (by decide))), hSτ31, by omega, (fun s o hs => ⟨fun q => by omega, fun _ => by rw [hU s o hs, A_plus x1h7 (by omega) hs, Uu_no uh32]⟩)⟩
        · omega
set_option maxRecDepth 100000 in
theorem f_readSum (l : Launch) (ad : Nat → Nat) (σ : Sg)  (hX : IX σ.1) (t : Nat → Int32) (n : Nat) (pr : Int) (hS : TS t n pr σ.1)  : Mt l yX1_readSum cX1_readSum 3 (some .boolean) 2 ad σ [.ref (ad 68)] (oI (fun r τ => IX τ.1 ∧ Fr [69] [(66, 1), (68, 2)] σ τ ∧ TS t n pr τ.1 ∧ (r.toInt = 0 ∨ r.toInt = 1) ∧ SmF pr t n (pl σ.1) (pl τ.1) r)) := by
  have hS5 := hS.2.2.2.2
  have hn60 : n ≤ 60 := by have q1 := hX.tl; have q2 := hS.2.1; omega
  refine Mt_intro (by decide +kernel) (by simp [lg_sl, Value.category]) (fun E C X => ?_)
  show WP E ad 0 [some (.ref (ad 68)), none, none] [] σ
  refine s_aload_n C dX1_readSum_0 rfl ?_
  refine s_callVI (st := []) C (f_readUnit l ad σ  hX t n pr hS ) cv_X1_74 y68 rfl rfl rfl ⟨by decide, by decide⟩ (Nat.le_of_ble_eq_true rfl) dX1_readSum_1 ?_
  intro r1 τ2 h3
  have hXτ2 := h3.1
  have hSτ2 := h3.2.2.1
  have bh3 := h3.2.2.2.1
  have pτ2 : pl τ2.1 ≤ n := hSτ2.2.2.2.2
  have ah3 : UnF pr t n (pl σ.1) (pl τ2.1) r1 := h3.2.2.2.2
  refine s_if_ne (tgt := 9) C dX1_readSum_4 (by decide) (fun q4 => ?_) (fun q4 => ?_)
  · have uh3 := ah3.1 (by omega)
    have ugh3 : (pl σ.1) < pl τ2.1 := by have q := bu_gt (pr := pr) (t := t) (n := n) (k := (pl σ.1)) (by rw [uh3]; omega); rw [uh3] at q; omega
    refine s_iconst C dX1_readSum_9 (by decide) (fun z5 tz5 => ?_)
    refine s_istore_n C dX1_readSum_10 (by decide) (Nat.le_of_ble_eq_true rfl) rfl ?_
    show WP E ad 11 [some (.ref (ad 68)), some (.int z5), none] [] τ2
    exact L_fSum l ad E σ t n pr C X 100 τ2 z5 (Fr.tr Fr.rf (Fr.mo h3.2.1 (by decide) (by decide))) hXτ2 hSτ2 (by omega) (fun s o hs => Uu_ok uh3) (by omega) (by omega)
  · have uh3 := ah3.2 (by omega)
    refine s_iconst C dX1_readSum_7 (by decide) (fun z6 tz6 => ?_)
    exact s_zret C (by omega) X dX1_readSum_8 ⟨hXτ2, (Fr.tr Fr.rf (Fr.mo h3.2.1 (by decide) (by decide))), hSτ2, by omega, (fun s o hs => ⟨fun q => by omega, fun _ => Uu_no uh3⟩)⟩
set_option maxRecDepth 100000 in
theorem f_readComparison (l : Launch) (ad : Nat → Nat) (σ : Sg)  (hX : IX σ.1) (t : Nat → Int32) (n : Nat) (pr : Int) (hS : TS t n pr σ.1)  : Mt l yX1_readComparison cX1_readComparison 2 (some .boolean) 3 ad σ [.ref (ad 68)] (oI (fun r τ => IX τ.1 ∧ Fr [69] [(66, 1), (68, 2)] σ τ ∧ TS t n pr τ.1 ∧ (r.toInt = 0 ∨ r.toInt = 1) ∧ CmF pr t n (pl σ.1) (pl τ.1) r)) := by
  have hS5 := hS.2.2.2.2
  refine Mt_intro (by decide +kernel) (by simp [lg_sl, Value.category]) (fun E C X => ?_)
  show WP E ad 0 [some (.ref (ad 68)), none] [] σ
  refine s_aload_n C dX1_readComparison_0 rfl ?_
  refine s_callVI (st := []) C (f_readSum l ad σ  hX t n pr hS ) cv_X1_71 y68 rfl rfl rfl ⟨by decide, by decide⟩ (Nat.le_of_ble_eq_true rfl) dX1_readComparison_1 ?_
  intro r1 τ2 h3
  have hXτ2 := h3.1
  have hSτ2 := h3.2.2.1
  have bh3 := h3.2.2.2.1
  have pτ2 : pl τ2.1 ≤ n := hSτ2.2.2.2.2
  have ah3 : SmF pr t n (pl σ.1) (pl τ2.1) r1 := h3.2.2.2.2
  refine s_if_ne (tgt := 9) C dX1_readComparison_4 (by decide) (fun q4 => ?_) (fun q4 => ?_)
  · have sh3 := fun o : List Bool => (ah3 1 o (Or.inl rfl)).1 (by omega)
    have ssh3 := (sh3 []).2
    refine s_aload_n C dX1_readComparison_9 rfl ?_
    refine s_getr (k := 0) (j := 66) C y68 fw_X1_19 rfl dX1_readComparison_10 ?_
    refine s_bipush C dX1_readComparison_13 (by decide) (fun z5 tz5 => ?_)
    refine s_callVI (st := []) C (f_accept l ad τ2 z5 hXτ2 t n pr hSτ2 ) cv_X1_50 y66 rfl rfl rfl ⟨by decide, by decide⟩ (Nat.le_of_ble_eq_true rfl) dX1_readComparison_15 ?_
    intro r6 τ7 h8
    have hXτ7 := h8.1
    have hSτ7 := h8.2.2.1
    have bh8 := h8.2.2.2.1
    have pτ7 : pl τ7.1 ≤ n := hSτ7.2.2.2.2
    have ah8 : AcF t n (pl τ2.1) (pl τ7.1) z5 r6 := h8.2.2.2.2
    refine s_if_eq (tgt := 26) C dX1_readComparison_18 (by decide) (fun q9 => ?_) (fun q9 => ?_)
    · obtain ⟨y1h8, y2h8⟩ := ah8.2 (by omega)
      refine s_aload_n C dX1_readComparison_26 rfl ?_
      refine s_getr (k := 0) (j := 66) C y68 fw_X1_19 rfl dX1_readComparison_27 ?_
      refine s_bipush C dX1_readComparison_30 (by decide) (fun z10 tz10 => ?_)
      refine s_callVI (st := []) C (f_accept l ad τ7 z10 hXτ7 t n pr hSτ7 ) cv_X1_50 y66 rfl rfl rfl ⟨by decide, by decide⟩ (Nat.le_of_ble_eq_true rfl) dX1_readComparison_32 ?_
      intro r11 τ12 h13
      have hXτ12 := h13.1
      have hSτ12 := h13.2.2.1
      have bh13 := h13.2.2.2.1
      have pτ12 : pl τ12.1 ≤ n := hSτ12.2.2.2.2
      have ah13 : AcF t n (pl τ2.1) (pl τ12.1) z10 r11 := by have q := h13.2.2.2.2; rw [y2h8] at q; exact q
      refine s_if_eq (tgt := 43) C dX1_readComparison_35 (by decide) (fun q14 => ?_) (fun q14 => ?_)
      · obtain ⟨y1h13, y2h13⟩ := ah13.2 (by omega)
        refine s_aload_n C dX1_readComparison_43 rfl ?_
        refine s_getr (k := 0) (j := 66) C y68 fw_X1_19 rfl dX1_readComparison_44 ?_
        refine s_bipush C dX1_readComparison_47 (by decide) (fun z15 tz15 => ?_)
        refine s_callVI (st := []) C (f_accept l ad τ12 z15 hXτ12 t n pr hSτ12 ) cv_X1_50 y66 rfl rfl rfl ⟨by decide, by decide⟩ (Nat.le_of_ble_eq_true rfl) dX1_readComparison_49 ?_
        intro r16 τ17 h18
        have hXτ17 := h18.1
        have hSτ17 := h18.2.2.1
        have bh18 := h18.2.2.2.1
        have pτ17 : pl τ17.1 ≤ n := hSτ17.2.2.2.2
        have ah18 : AcF t n (pl τ2.1) (pl τ17.1) z15 r16 := by have q := h18.2.2.2.2; rw [y2h13] at q; exact q
        refine s_if_eq (tgt := 60) C dX1_readComparison_52 (by decide) (fun q19 => ?_) (fun q19 => ?_)
        · obtain ⟨y1h18, y2h18⟩ := ah18.2 (by omega)
          refine s_iconst C dX1_readComparison_60 (by decide) (fun z20 tz20 => ?_)
          refine s_istore_n C dX1_readComparison_61 (by decide) (Nat.le_of_ble_eq_true rfl) rfl ?_
          show WP E ad 62 [some (.ref (ad 68)), some (.int z20)] [] τ17
          refine s_iload_n C dX1_readComparison_62 rfl ?_
          refine s_if_lt (tgt := 73) C dX1_readComparison_63 (by decide) (fun q21 => ?_) (fun q21 => ?_)
          · skip
            refine s_iconst C dX1_readComparison_73 (by decide) (fun z22 tz22 => ?_)
            exact s_zret C (by omega) X dX1_readComparison_74 ⟨hXτ17, (Fr.tr (Fr.tr (Fr.tr (Fr.tr Fr.rf (Fr.mo h3.2.1 (by decide) (by decide))) (Fr.mo h8.2.1 (by decide) (by decide))) (Fr.mo h13.2.1 (by decide) (by decide))) (Fr.mo h18.2.1 (by decide) (by decide))), hSτ17, by omega, (by rw [y2h18]; exact (fun hc o => ⟨fun q => by omega, fun _ => by rw [A_unit hS5 hc, (sh3 o).1, A_stop1 (by omega) (by omega)]⟩))⟩
          · omega
        · obtain ⟨x1h18, x2h18, x3h18⟩ := ah18.1 (by omega)
          refine s_bipush C dX1_readComparison_55 (by decide) (fun z23 tz23 => ?_)
          refine s_goto (tgt := 61) C dX1_readComparison_57 (by decide) ?_
          refine s_istore_n C dX1_readComparison_61 (by decide) (Nat.le_of_ble_eq_true rfl) rfl ?_
          show WP E ad 62 [some (.ref (ad 68)), some (.int z23)] [] τ17
          refine s_iload_n C dX1_readComparison_62 rfl ?_
          refine s_if_lt (tgt := 73) C dX1_readComparison_63 (by decide) (fun q24 => ?_) (fun q24 => ?_)
          · omega
          · refine s_aload_n C dX1_readComparison_66 rfl ?_
            refine s_callVI (st := []) C (f_readSum l ad τ17  hXτ17 t n pr hSτ17 ) cv_X1_71 y68 rfl rfl rfl ⟨by decide, by decide⟩ (Nat.le_of_ble_eq_true rfl) dX1_readComparison_67 ?_
            intro r25 τ26 h27
            have hXτ26 := h27.1
            have hSτ26 := h27.2.2.1
            have bh27 := h27.2.2.2.1
            have pτ26 : pl τ26.1 ≤ n := hSτ26.2.2.2.2
            have ah27 : SmF pr t n ((pl τ2.1) + 1) (pl τ26.1) r25 := by have q := h27.2.2.2.2; rw [x3h18] at q; exact q
            refine s_if_ne (tgt := 75) C dX1_readComparison_70 (by decide) (fun q28 => ?_) (fun q28 => ?_)
            · have sh27 := fun o : List Bool => (ah27 2 o (Or.inr rfl)).1 (by omega)
              have ssh27 := (sh27 []).2
              refine s_aload_n C dX1_readComparison_75 rfl ?_
              refine s_iload_n C dX1_readComparison_76 rfl ?_
              refine s_callVV (st := []) C (c_X1_add l ad τ26 z23 hXτ26 (pv_op (by omega))) cv_X1_53 y68 rfl rfl rfl ⟨by decide, by decide⟩ (Nat.le_of_ble_eq_true rfl) dX1_readComparison_77 ?_
              intro τ30 h31
              have hXτ30 := h31.1
              have eh31 : τ30.1 66 1 = τ26.1 66 1 := h31.2.1.f 66 1 (by decide) (by decide)
              have kτ30 : pl τ30.1 = (pl τ26.1) := congrArg (fun z : Int32 => z.toInt.toNat) eh31
              have hSτ30 : TS t n pr τ30.1 := hSτ26.go h31.2.1 (by decide) (by decide) (by rw [eh31]; have := hSτ26.2.2.2.1; omega) (by rw [eh31]; have := hSτ26.2.2.2; omega)
              have pτ30 : pl τ30.1 ≤ n := hSτ30.2.2.2.2
              skip
              refine s_iconst C dX1_readComparison_80 (by decide) (fun z32 tz32 => ?_)
              exact s_zret C (by omega) X dX1_readComparison_81 ⟨hXτ30, (Fr.tr (Fr.tr (Fr.tr (Fr.tr (Fr.tr (Fr.tr Fr.rf (Fr.mo h3.2.1 (by decide) (by decide))) (Fr.mo h8.2.1 (by decide) (by decide))) (Fr.mo h13.2.1 (by decide) (by decide))) (Fr.mo h18.2.1 (by decide) (by decide))) (Fr.mo h27.2.1 (by decide) (by decide))) (Fr.mo h31.2.1 (by decide) (by decide))), hSτ30, by omega, (by rw [kτ30]; exact (fun hc o => ⟨fun _ => ⟨by rw [A_unit hS5 hc, (sh3 o).1, A_rel x1h18 (by omega), (sh27 o).1, A_23 (sh27 o).2.1], by omega⟩, fun q => by omega⟩))⟩
            · have sh27 := fun o : List Bool => (ah27 2 o (Or.inr rfl)).2 (by omega)
              skip
              refine s_iconst C dX1_readComparison_73 (by decide) (fun z33 tz33 => ?_)
              exact s_zret C (by omega) X dX1_readComparison_74 ⟨hXτ26, (Fr.tr (Fr.tr (Fr.tr (Fr.tr (Fr.tr Fr.rf (Fr.mo h3.2.1 (by decide) (by decide))) (Fr.mo h8.2.1 (by decide) (by decide))) (Fr.mo h13.2.1 (by decide) (by decide))) (Fr.mo h18.2.1 (by decide) (by decide))) (Fr.mo h27.2.1 (by decide) (by decide))), hSτ26, by omega, (fun hc o => ⟨fun q => by omega, fun _ => by rw [A_unit hS5 hc, (sh3 o).1, A_rel x1h18 (by omega)]; exact sh27 o⟩)⟩
      · obtain ⟨x1h13, x2h13, x3h13⟩ := ah13.1 (by omega)
        refine s_bipush C dX1_readComparison_38 (by decide) (fun z34 tz34 => ?_)
        refine s_goto (tgt := 61) C dX1_readComparison_40 (by decide) ?_
        refine s_istore_n C dX1_readComparison_61 (by decide) (Nat.le_of_ble_eq_true rfl) rfl ?_
        show WP E ad 62 [some (.ref (ad 68)), some (.int z34)] [] τ12
        refine s_iload_n C dX1_readComparison_62 rfl ?_
        refine s_if_lt (tgt := 73) C dX1_readComparison_63 (by decide) (fun q35 => ?_) (fun q35 => ?_)
        · omega
        · refine s_aload_n C dX1_readComparison_66 rfl ?_
          refine s_callVI (st := []) C (f_readSum l ad τ12  hXτ12 t n pr hSτ12 ) cv_X1_71 y68 rfl rfl rfl ⟨by decide, by decide⟩ (Nat.le_of_ble_eq_true rfl) dX1_readComparison_67 ?_
          intro r36 τ37 h38
          have hXτ37 := h38.1
          have hSτ37 := h38.2.2.1
          have bh38 := h38.2.2.2.1
          have pτ37 : pl τ37.1 ≤ n := hSτ37.2.2.2.2
          have ah38 : SmF pr t n ((pl τ2.1) + 1) (pl τ37.1) r36 := by have q := h38.2.2.2.2; rw [x3h13] at q; exact q
          refine s_if_ne (tgt := 75) C dX1_readComparison_70 (by decide) (fun q39 => ?_) (fun q39 => ?_)
          · have sh38 := fun o : List Bool => (ah38 2 o (Or.inr rfl)).1 (by omega)
            have ssh38 := (sh38 []).2
            refine s_aload_n C dX1_readComparison_75 rfl ?_
            refine s_iload_n C dX1_readComparison_76 rfl ?_
            refine s_callVV (st := []) C (c_X1_add l ad τ37 z34 hXτ37 (pv_op (by omega))) cv_X1_53 y68 rfl rfl rfl ⟨by decide, by decide⟩ (Nat.le_of_ble_eq_true rfl) dX1_readComparison_77 ?_
            intro τ41 h42
            have hXτ41 := h42.1
            have eh42 : τ41.1 66 1 = τ37.1 66 1 := h42.2.1.f 66 1 (by decide) (by decide)
            have kτ41 : pl τ41.1 = (pl τ37.1) := congrArg (fun z : Int32 => z.toInt.toNat) eh42
            have hSτ41 : TS t n pr τ41.1 := hSτ37.go h42.2.1 (by decide) (by decide) (by rw [eh42]; have := hSτ37.2.2.2.1; omega) (by rw [eh42]; have := hSτ37.2.2.2; omega)
            have pτ41 : pl τ41.1 ≤ n := hSτ41.2.2.2.2
            skip
            refine s_iconst C dX1_readComparison_80 (by decide) (fun z43 tz43 => ?_)
            exact s_zret C (by omega) X dX1_readComparison_81 ⟨hXτ41, (Fr.tr (Fr.tr (Fr.tr (Fr.tr (Fr.tr Fr.rf (Fr.mo h3.2.1 (by decide) (by decide))) (Fr.mo h8.2.1 (by decide) (by decide))) (Fr.mo h13.2.1 (by decide) (by decide))) (Fr.mo h38.2.1 (by decide) (by decide))) (Fr.mo h42.2.1 (by decide) (by decide))), hSτ41, by omega, (by rw [kτ41]; exact (fun hc o => ⟨fun _ => ⟨by rw [A_unit hS5 hc, (sh3 o).1, A_rel x1h13 (by omega), (sh38 o).1, A_23 (sh38 o).2.1], by omega⟩, fun q => by omega⟩))⟩
          · have sh38 := fun o : List Bool => (ah38 2 o (Or.inr rfl)).2 (by omega)
            skip
            refine s_iconst C dX1_readComparison_73 (by decide) (fun z44 tz44 => ?_)
            exact s_zret C (by omega) X dX1_readComparison_74 ⟨hXτ37, (Fr.tr (Fr.tr (Fr.tr (Fr.tr Fr.rf (Fr.mo h3.2.1 (by decide) (by decide))) (Fr.mo h8.2.1 (by decide) (by decide))) (Fr.mo h13.2.1 (by decide) (by decide))) (Fr.mo h38.2.1 (by decide) (by decide))), hSτ37, by omega, (fun hc o => ⟨fun q => by omega, fun _ => by rw [A_unit hS5 hc, (sh3 o).1, A_rel x1h13 (by omega)]; exact sh38 o⟩)⟩
    · obtain ⟨x1h8, x2h8, x3h8⟩ := ah8.1 (by omega)
      refine s_bipush C dX1_readComparison_21 (by decide) (fun z45 tz45 => ?_)
      refine s_goto (tgt := 61) C dX1_readComparison_23 (by decide) ?_
      refine s_istore_n C dX1_readComparison_61 (by decide) (Nat.le_of_ble_eq_true rfl) rfl ?_
      show WP E ad 62 [some (.ref (ad 68)), some (.int z45)] [] τ7
      refine s_iload_n C dX1_readComparison_62 rfl ?_
      refine s_if_lt (tgt := 73) C dX1_readComparison_63 (by decide) (fun q46 => ?_) (fun q46 => ?_)
      · omega
      · refine s_aload_n C dX1_readComparison_66 rfl ?_
        refine s_callVI (st := []) C (f_readSum l ad τ7  hXτ7 t n pr hSτ7 ) cv_X1_71 y68 rfl rfl rfl ⟨by decide, by decide⟩ (Nat.le_of_ble_eq_true rfl) dX1_readComparison_67 ?_
        intro r47 τ48 h49
        have hXτ48 := h49.1
        have hSτ48 := h49.2.2.1
        have bh49 := h49.2.2.2.1
        have pτ48 : pl τ48.1 ≤ n := hSτ48.2.2.2.2
        have ah49 : SmF pr t n ((pl τ2.1) + 1) (pl τ48.1) r47 := by have q := h49.2.2.2.2; rw [x3h8] at q; exact q
        refine s_if_ne (tgt := 75) C dX1_readComparison_70 (by decide) (fun q50 => ?_) (fun q50 => ?_)
        · have sh49 := fun o : List Bool => (ah49 2 o (Or.inr rfl)).1 (by omega)
          have ssh49 := (sh49 []).2
          refine s_aload_n C dX1_readComparison_75 rfl ?_
          refine s_iload_n C dX1_readComparison_76 rfl ?_
          refine s_callVV (st := []) C (c_X1_add l ad τ48 z45 hXτ48 (pv_op (by omega))) cv_X1_53 y68 rfl rfl rfl ⟨by decide, by decide⟩ (Nat.le_of_ble_eq_true rfl) dX1_readComparison_77 ?_
          intro τ52 h53
          have hXτ52 := h53.1
          have eh53 : τ52.1 66 1 = τ48.1 66 1 := h53.2.1.f 66 1 (by decide) (by decide)
          have kτ52 : pl τ52.1 = (pl τ48.1) := congrArg (fun z : Int32 => z.toInt.toNat) eh53
          have hSτ52 : TS t n pr τ52.1 := hSτ48.go h53.2.1 (by decide) (by decide) (by rw [eh53]; have := hSτ48.2.2.2.1; omega) (by rw [eh53]; have := hSτ48.2.2.2; omega)
          have pτ52 : pl τ52.1 ≤ n := hSτ52.2.2.2.2
          skip
          refine s_iconst C dX1_readComparison_80 (by decide) (fun z54 tz54 => ?_)
          exact s_zret C (by omega) X dX1_readComparison_81 ⟨hXτ52, (Fr.tr (Fr.tr (Fr.tr (Fr.tr Fr.rf (Fr.mo h3.2.1 (by decide) (by decide))) (Fr.mo h8.2.1 (by decide) (by decide))) (Fr.mo h49.2.1 (by decide) (by decide))) (Fr.mo h53.2.1 (by decide) (by decide))), hSτ52, by omega, (by rw [kτ52]; exact (fun hc o => ⟨fun _ => ⟨by rw [A_unit hS5 hc, (sh3 o).1, A_rel x1h8 (by omega), (sh49 o).1, A_23 (sh49 o).2.1], by omega⟩, fun q => by omega⟩))⟩
        · have sh49 := fun o : List Bool => (ah49 2 o (Or.inr rfl)).2 (by omega)
          skip
          refine s_iconst C dX1_readComparison_73 (by decide) (fun z55 tz55 => ?_)
          exact s_zret C (by omega) X dX1_readComparison_74 ⟨hXτ48, (Fr.tr (Fr.tr (Fr.tr Fr.rf (Fr.mo h3.2.1 (by decide) (by decide))) (Fr.mo h8.2.1 (by decide) (by decide))) (Fr.mo h49.2.1 (by decide) (by decide))), hSτ48, by omega, (fun hc o => ⟨fun q => by omega, fun _ => by rw [A_unit hS5 hc, (sh3 o).1, A_rel x1h8 (by omega)]; exact sh49 o⟩)⟩
  · have sh3 := fun o : List Bool => (ah3 1 o (Or.inl rfl)).2 (by omega)
    skip
    refine s_iconst C dX1_readComparison_7 (by decide) (fun z56 tz56 => ?_)
    exact s_zret C (by omega) X dX1_readComparison_8 ⟨hXτ2, (Fr.tr Fr.rf (Fr.mo h3.2.1 (by decide) (by decide))), hSτ2, by omega, (fun hc o => ⟨fun q => by omega, fun _ => by rw [A_unit hS5 hc]; exact sh3 o⟩)⟩
set_option maxRecDepth 100000 in
theorem f_readTest_5 (l : Launch) (ad : Nat → Nat) (σ : Sg) (d : Int32) (hX : IX σ.1) (t : Nat → Int32) (n : Nat) (pr : Int) (hS : TS t n pr σ.1) (hd : d.toInt = 5) : Mt l yX1_readTest cX1_readTest 3 (some .boolean) 4 ad σ [.ref (ad 68), .int d] (oI (fun r τ => IX τ.1 ∧ Fr [69] [(66, 1), (68, 2)] σ τ ∧ TS t n pr τ.1 ∧ (r.toInt = 0 ∨ r.toInt = 1) ∧ TsF pr t n 5 (pl σ.1) (pl τ.1) r)) := by
  have hS5 := hS.2.2.2.2
  refine Mt_intro (by decide +kernel) (by simp [lg_sl, Value.category]) (fun E C X => ?_)
  show WP E ad 0 [some (.ref (ad 68)), some (.int d), none] [] σ
  refine s_aload_n C dX1_readTest_0 rfl ?_
  refine s_getr (k := 0) (j := 66) C y68 fw_X1_19 rfl dX1_readTest_1 ?_
  refine s_callVI (st := []) C (f_peek l ad σ hX t n pr hS) cv_X1_60 y66 rfl rfl rfl ⟨by decide, by decide⟩ (Nat.le_of_ble_eq_true rfl) dX1_readTest_4 ?_
  intro r1 τ2 h3
  obtain ⟨eh3, h3⟩ := h3; replace eh3 := eh3.symm; subst eh3
  refine s_istore_n C dX1_readTest_7 (by decide) (Nat.le_of_ble_eq_true rfl) rfl ?_
  show WP E ad 8 [some (.ref (ad 68)), some (.int d), some (.int r1)] [] σ
  have hpk := h3
  refine s_iload_n C dX1_readTest_8 rfl ?_
  refine s_bipush C dX1_readTest_9 (by decide) (fun z4 tz4 => ?_)
  refine s_icmp_eq (tgt := 25) C dX1_readTest_11 (by decide) (fun q5 => ?_) (fun q5 => ?_)
  · have hkn : pl σ.1 < n := by unfold tA at hpk; split at hpk <;> omega
    have hkc : (t (pl σ.1)).toInt = r1.toInt := by unfold tA at hpk; rw [if_pos hkn] at hpk; omega
    refine s_iload_n C dX1_readTest_25 rfl ?_
    refine s_iconst C dX1_readTest_26 (by decide) (fun z6 tz6 => ?_)
    refine s_icmp_lt (tgt := 32) C dX1_readTest_27 (by decide) (fun q7 => ?_) (fun q7 => ?_)
    · omega
    · skip
      refine s_iconst C dX1_readTest_30 (by decide) (fun z8 tz8 => ?_)
      exact s_zret C (by omega) X dX1_readTest_31 ⟨hX, Fr.rf, hS, by omega, (fun o ho => ⟨fun q => by omega, fun _ => by rw [A_open hkn (by omega), if_pos (by omega)]⟩)⟩
  · refine s_iload_n C dX1_readTest_14 rfl ?_
    refine s_bipush C dX1_readTest_15 (by decide) (fun z9 tz9 => ?_)
    refine s_icmp_eq (tgt := 25) C dX1_readTest_17 (by decide) (fun q10 => ?_) (fun q10 => ?_)
    · have hkn : pl σ.1 < n := by unfold tA at hpk; split at hpk <;> omega
      have hkc : (t (pl σ.1)).toInt = r1.toInt := by unfold tA at hpk; rw [if_pos hkn] at hpk; omega
      refine s_iload_n C dX1_readTest_25 rfl ?_
      refine s_iconst C dX1_readTest_26 (by decide) (fun z11 tz11 => ?_)
      refine s_icmp_lt (tgt := 32) C dX1_readTest_27 (by decide) (fun q12 => ?_) (fun q12 => ?_)
      · omega
      · skip
        refine s_iconst C dX1_readTest_30 (by decide) (fun z13 tz13 => ?_)
        exact s_zret C (by omega) X dX1_readTest_31 ⟨hX, Fr.rf, hS, by omega, (fun o ho => ⟨fun q => by omega, fun _ => by rw [A_open hkn (by omega), if_pos (by omega)]⟩)⟩
    · skip
      have hc : n ≤ pl σ.1 ∨ ¬ ((t (pl σ.1)).toInt = 33 ∨ (t (pl σ.1)).toInt = 40) := by unfold tA at hpk; split at hpk <;> omega
      refine s_aload_n C dX1_readTest_20 rfl ?_
      refine s_callVI (st := []) C (f_readComparison l ad σ  hX t n pr hS ) cv_X1_64 y68 rfl rfl rfl ⟨by decide, by decide⟩ (Nat.le_of_ble_eq_true rfl) dX1_readTest_21 ?_
      intro r14 τ15 h16
      have hXτ15 := h16.1
      have hSτ15 := h16.2.2.1
      have bh16 := h16.2.2.2.1
      have pτ15 : pl τ15.1 ≤ n := hSτ15.2.2.2.2
      have ah16 : CmF pr t n (pl σ.1) (pl τ15.1) r14 := h16.2.2.2.2
      exact s_zret C (by omega) X dX1_readTest_24 ⟨hXτ15, (Fr.tr Fr.rf (Fr.mo h16.2.1 (by decide) (by decide))), hSτ15, by omega, (fun o ho => ah16 hc o)⟩
set_option maxRecDepth 100000 in
theorem L_freadAll_5 (l : Launch) (ad : Nat → Nat) (E : Ev) (σ : Sg) (t : Nat → Int32) (n : Nat) (pr : Int) (d : Int32) (hd : d.toInt = 5) (C : Cx E l (rmk 5) 3 cX1_readAll RX1) (X : Rx E ad (some .boolean) (oI (fun r τ => IX τ.1 ∧ Fr [69] [(66, 1), (68, 2)] σ τ ∧ TS t n pr τ.1 ∧ (r.toInt = 0 ∨ r.toInt = 1) ∧ AlF pr t n 5 (pl σ.1) (pl τ.1) r)))  : ∀ (mm : Nat) (τ : Sg) (z : Int32), (Fr [69] [(66, 1), (68, 2)] σ τ) → (IX τ.1) → (TS t n pr τ.1) → (0 ≤ z.toInt ∧ z.toInt ≤ pl τ.1) → (∀ o : List Bool, o.length = 5 → te o = o → Au pr t n 0 o (pl σ.1) = Au pr t n 3 o (pl τ.1)) → (pl σ.1 < pl τ.1) → (60 - z.toInt).toNat < mm → WP E ad 12 [some (.ref (ad 68)), some (.int d), some (.int z)] [] τ := by
  intro mm
  induction mm with
  | zero => intro τ z kF hXτ hSτ h0 hA hgt hm9; exact absurd hm9 (Nat.not_lt_zero _)
  | succ mm ih =>
    intro τ z kF hXτ hSτ h0 hA hgt hm9
    have hS5 : pl τ.1 ≤ n := hSτ.2.2.2.2
    have hn60 : n ≤ 60 := by have q1 := hXτ.tl; have q2 := hSτ.2.1; omega
    refine s_iload_n C dX1_readAll_12 rfl ?_
    refine s_bipush C dX1_readAll_13 (by decide) (fun z1 tz1 => ?_)
    refine s_icmp_ge (tgt := 52) C dX1_readAll_15 (by decide) (fun q2 => ?_) (fun q2 => ?_)
    · skip
      refine s_iconst C dX1_readAll_52 (by decide) (fun z3 tz3 => ?_)
      exact s_zret C (by omega) X dX1_readAll_53 ⟨hXτ, (Fr.tr Fr.rf (Fr.mo kF (by decide) (by decide))), hSτ, by omega, (fun o ho ht => ⟨fun _ => ⟨hA o ho ht, hgt, by omega⟩, fun q => by omega⟩)⟩
    · refine s_aload_n C dX1_readAll_18 rfl ?_
      refine s_getr (k := 0) (j := 66) C y68 fw_X1_19 rfl dX1_readAll_19 ?_
      refine s_bipush C dX1_readAll_22 (by decide) (fun z4 tz4 => ?_)
      refine s_callVI (st := []) C (f_accept l ad τ z4 hXτ t n pr hSτ ) cv_X1_50 y66 rfl rfl rfl ⟨by decide, by decide⟩ (Nat.le_of_ble_eq_true rfl) dX1_readAll_24 ?_
      intro r5 τ6 h7
      have hXτ6 := h7.1
      have hSτ6 := h7.2.2.1
      have bh7 := h7.2.2.2.1
      have pτ6 : pl τ6.1 ≤ n := hSτ6.2.2.2.2
      have ah7 : AcF t n (pl τ.1) (pl τ6.1) z4 r5 := h7.2.2.2.2
      refine s_if_eq (tgt := 52) C dX1_readAll_27 (by decide) (fun q8 => ?_) (fun q8 => ?_)
      · obtain ⟨y1h7, y2h7⟩ := ah7.2 (by omega)
        skip
        refine s_iconst C dX1_readAll_52 (by decide) (fun z9 tz9 => ?_)
        exact s_zret C (by omega) X dX1_readAll_53 ⟨hXτ6, (Fr.tr (Fr.tr Fr.rf (Fr.mo kF (by decide) (by decide))) (Fr.mo h7.2.1 (by decide) (by decide))), hSτ6, by omega, (by rw [y2h7]; exact (fun o ho ht => ⟨fun _ => ⟨hA o ho ht, hgt, by omega⟩, fun q => by omega⟩))⟩
      · obtain ⟨x1h7, x2h7, x3h7⟩ := ah7.1 (by omega)
        refine s_aload_n C dX1_readAll_30 rfl ?_
        refine s_iload_n C dX1_readAll_31 rfl ?_
        refine s_callVI (st := []) C (f_readTest_5 l ad τ6 d hXτ6 t n pr hSτ6 (by omega)) cv_X1_57 y68 rfl rfl rfl ⟨by decide, by decide⟩ (Nat.le_of_ble_eq_true rfl) dX1_readAll_32 ?_
        intro r10 τ11 h12
        have hXτ11 := h12.1
        have hSτ11 := h12.2.2.1
        have bh12 := h12.2.2.2.1
        have pτ11 : pl τ11.1 ≤ n := hSτ11.2.2.2.2
        have ah12 : TsF pr t n 5 ((pl τ.1) + 1) (pl τ11.1) r10 := by have q := h12.2.2.2.2; rw [x3h7] at q; exact q
        refine s_if_ne (tgt := 40) C dX1_readAll_35 (by decide) (fun q13 => ?_) (fun q13 => ?_)
        · have q4h12 := ((ah12 (List.replicate 5 true) (by simp))).1 (by omega)
          refine s_aload_n C dX1_readAll_40 rfl ?_
          refine s_bipush C dX1_readAll_41 (by decide) (fun z14 tz14 => ?_)
          refine s_callVV (st := []) C (c_X1_add l ad τ11 z14 hXτ11 (pv_op (by omega))) cv_X1_53 y68 rfl rfl rfl ⟨by decide, by decide⟩ (Nat.le_of_ble_eq_true rfl) dX1_readAll_43 ?_
          intro τ16 h17
          have hXτ16 := h17.1
          have eh17 : τ16.1 66 1 = τ11.1 66 1 := h17.2.1.f 66 1 (by decide) (by decide)
          have kτ16 : pl τ16.1 = (pl τ11.1) := congrArg (fun z : Int32 => z.toInt.toNat) eh17
          have hSτ16 : TS t n pr τ16.1 := hSτ11.go h17.2.1 (by decide) (by decide) (by rw [eh17]; have := hSτ11.2.2.2.1; omega) (by rw [eh17]; have := hSτ11.2.2.2; omega)
          have pτ16 : pl τ16.1 ≤ n := hSτ16.2.2.2.2
          refine s_iinc C dX1_readAll_46 rfl (by decide) rfl (by decide) (by omega) (fun z18 tz18 => ?_)
          show WP E ad 49 [some (.ref (ad 68)), some (.int d), some (.int z18)] [] τ16
          refine s_goto (tgt := 12) C dX1_readAll_49 (by decide) ?_
          exact ih τ16 z18 (Fr.tr (Fr.tr (Fr.tr (Fr.tr Fr.rf (Fr.mo kF (by decide) (by decide))) (Fr.mo h7.2.1 (by decide) (by decide))) (Fr.mo h12.2.1 (by decide) (by decide))) (Fr.mo h17.2.1 (by decide) (by decide))) hXτ16 hSτ16 (by omega) (fun o ho ht => by rw [hA o ho ht, A_and x1h7 (by omega) ht, ((ah12 o ho).1 (by omega)).1, kτ16]) (by omega) (by omega)
        · skip
          refine s_iconst C dX1_readAll_38 (by decide) (fun z19 tz19 => ?_)
          exact s_zret C (by omega) X dX1_readAll_39 ⟨hXτ11, (Fr.tr (Fr.tr (Fr.tr Fr.rf (Fr.mo kF (by decide) (by decide))) (Fr.mo h7.2.1 (by decide) (by decide))) (Fr.mo h12.2.1 (by decide) (by decide))), hSτ11, by omega, (fun o ho ht => ⟨fun q => by omega, fun _ => by rw [hA o ho ht, A_and x1h7 (by omega) ht]; exact (ah12 o ho).2 (by omega)⟩)⟩
set_option maxRecDepth 100000 in
theorem f_readAll_5 (l : Launch) (ad : Nat → Nat) (σ : Sg) (d : Int32) (hX : IX σ.1) (t : Nat → Int32) (n : Nat) (pr : Int) (hS : TS t n pr σ.1) (hd : d.toInt = 5) : Mt l yX1_readAll cX1_readAll 3 (some .boolean) 5 ad σ [.ref (ad 68), .int d] (oI (fun r τ => IX τ.1 ∧ Fr [69] [(66, 1), (68, 2)] σ τ ∧ TS t n pr τ.1 ∧ (r.toInt = 0 ∨ r.toInt = 1) ∧ AlF pr t n 5 (pl σ.1) (pl τ.1) r)) := by
  have hS5 := hS.2.2.2.2
  have hn60 : n ≤ 60 := by have q1 := hX.tl; have q2 := hS.2.1; omega
  refine Mt_intro (by decide +kernel) (by simp [lg_sl, Value.category]) (fun E C X => ?_)
  show WP E ad 0 [some (.ref (ad 68)), some (.int d), none] [] σ
  refine s_aload_n C dX1_readAll_0 rfl ?_
  refine s_iload_n C dX1_readAll_1 rfl ?_
  refine s_callVI (st := []) C (f_readTest_5 l ad σ d hX t n pr hS (by omega)) cv_X1_57 y68 rfl rfl rfl ⟨by decide, by decide⟩ (Nat.le_of_ble_eq_true rfl) dX1_readAll_2 ?_
  intro r1 τ2 h3
  have hXτ2 := h3.1
  have hSτ2 := h3.2.2.1
  have bh3 := h3.2.2.2.1
  have pτ2 : pl τ2.1 ≤ n := hSτ2.2.2.2.2
  have ah3 : TsF pr t n 5 (pl σ.1) (pl τ2.1) r1 := h3.2.2.2.2
  refine s_if_ne (tgt := 10) C dX1_readAll_5 (by decide) (fun q4 => ?_) (fun q4 => ?_)
  · have q4h3 := ((ah3 (List.replicate 5 true) (by simp))).1 (by omega)
    refine s_iconst C dX1_readAll_10 (by decide) (fun z5 tz5 => ?_)
    refine s_istore_n C dX1_readAll_11 (by decide) (Nat.le_of_ble_eq_true rfl) rfl ?_
    show WP E ad 12 [some (.ref (ad 68)), some (.int d), some (.int z5)] [] τ2
    exact L_freadAll_5 l ad E σ t n pr d hd C X 100 τ2 z5 (Fr.tr Fr.rf (Fr.mo h3.2.1 (by decide) (by decide))) hXτ2 hSτ2 (by omega) (fun o ho ht => ((ah3 o ho).1 (by omega)).1) (by omega) (by omega)
  · refine s_iconst C dX1_readAll_8 (by decide) (fun z6 tz6 => ?_)
    exact s_zret C (by omega) X dX1_readAll_9 ⟨hXτ2, (Fr.tr Fr.rf (Fr.mo h3.2.1 (by decide) (by decide))), hSτ2, by omega, (fun o ho ht => ⟨fun q => by omega, fun _ => (ah3 o ho).2 (by omega)⟩)⟩
set_option maxRecDepth 100000 in
theorem L_freadCondition_5 (l : Launch) (ad : Nat → Nat) (E : Ev) (σ : Sg) (t : Nat → Int32) (n : Nat) (pr : Int) (d : Int32) (hd : d.toInt = 5) (C : Cx E l (rmk 6) 3 cX1_readCondition RX1) (X : Rx E ad (some .boolean) (oI (fun r τ => IX τ.1 ∧ Fr [69] [(66, 1), (68, 2)] σ τ ∧ TS t n pr τ.1 ∧ (r.toInt = 0 ∨ r.toInt = 1) ∧ CoF pr t n 5 (pl σ.1) (pl τ.1) r)))  : ∀ (mm : Nat) (τ : Sg) (z : Int32), (Fr [69] [(66, 1), (68, 2)] σ τ) → (IX τ.1) → (TS t n pr τ.1) → (0 ≤ z.toInt ∧ z.toInt ≤ pl τ.1) → (∀ o : List Bool, o.length = 5 → te o = o → Au pr t n 0 o (pl σ.1) = Au pr t n 3 o (pl τ.1)) → (pl σ.1 < pl τ.1) → ((n ≤ pl τ.1 ∨ ¬ (t (pl τ.1)).toInt = 38)) → (60 - z.toInt).toNat < mm → WP E ad 12 [some (.ref (ad 68)), some (.int d), some (.int z)] [] τ := by
  intro mm
  induction mm with
  | zero => intro τ z kF hXτ hSτ h0 hA hgt hst hm9; exact absurd hm9 (Nat.not_lt_zero _)
  | succ mm ih =>
    intro τ z kF hXτ hSτ h0 hA hgt hst hm9
    have hS5 : pl τ.1 ≤ n := hSτ.2.2.2.2
    have hn60 : n ≤ 60 := by have q1 := hXτ.tl; have q2 := hSτ.2.1; omega
    refine s_iload_n C dX1_readCondition_12 rfl ?_
    refine s_bipush C dX1_readCondition_13 (by decide) (fun z1 tz1 => ?_)
    refine s_icmp_ge (tgt := 52) C dX1_readCondition_15 (by decide) (fun q2 => ?_) (fun q2 => ?_)
    · skip
      refine s_iconst C dX1_readCondition_52 (by decide) (fun z3 tz3 => ?_)
      exact s_zret C (by omega) X dX1_readCondition_53 ⟨hXτ, (Fr.tr Fr.rf (Fr.mo kF (by decide) (by decide))), hSτ, by omega, (fun o ho ht => ⟨fun _ => ⟨hA o ho ht, hgt, by omega⟩, fun q => by omega⟩)⟩
    · refine s_aload_n C dX1_readCondition_18 rfl ?_
      refine s_getr (k := 0) (j := 66) C y68 fw_X1_19 rfl dX1_readCondition_19 ?_
      refine s_bipush C dX1_readCondition_22 (by decide) (fun z4 tz4 => ?_)
      refine s_callVI (st := []) C (f_accept l ad τ z4 hXτ t n pr hSτ ) cv_X1_50 y66 rfl rfl rfl ⟨by decide, by decide⟩ (Nat.le_of_ble_eq_true rfl) dX1_readCondition_24 ?_
      intro r5 τ6 h7
      have hXτ6 := h7.1
      have hSτ6 := h7.2.2.1
      have bh7 := h7.2.2.2.1
      have pτ6 : pl τ6.1 ≤ n := hSτ6.2.2.2.2
      have ah7 : AcF t n (pl τ.1) (pl τ6.1) z4 r5 := h7.2.2.2.2
      refine s_if_eq (tgt := 52) C dX1_readCondition_27 (by decide) (fun q8 => ?_) (fun q8 => ?_)
      · obtain ⟨y1h7, y2h7⟩ := ah7.2 (by omega)
        skip
        refine s_iconst C dX1_readCondition_52 (by decide) (fun z9 tz9 => ?_)
        exact s_zret C (by omega) X dX1_readCondition_53 ⟨hXτ6, (Fr.tr (Fr.tr Fr.rf (Fr.mo kF (by decide) (by decide))) (Fr.mo h7.2.1 (by decide) (by decide))), hSτ6, by omega, (by rw [y2h7]; exact (fun o ho ht => ⟨fun _ => ⟨hA o ho ht, hgt, by omega⟩, fun q => by omega⟩))⟩
      · obtain ⟨x1h7, x2h7, x3h7⟩ := ah7.1 (by omega)
        refine s_aload_n C dX1_readCondition_30 rfl ?_
        refine s_iload_n C dX1_readCondition_31 rfl ?_
        refine s_callVI (st := []) C (f_readAll_5 l ad τ6 d hXτ6 t n pr hSτ6 (by omega)) cv_X1_46 y68 rfl rfl rfl ⟨by decide, by decide⟩ (Nat.le_of_ble_eq_true rfl) dX1_readCondition_32 ?_
        intro r10 τ11 h12
        have hXτ11 := h12.1
        have hSτ11 := h12.2.2.1
        have bh12 := h12.2.2.2.1
        have pτ11 : pl τ11.1 ≤ n := hSτ11.2.2.2.2
        have ah12 : AlF pr t n 5 ((pl τ.1) + 1) (pl τ11.1) r10 := by have q := h12.2.2.2.2; rw [x3h7] at q; exact q
        refine s_if_ne (tgt := 40) C dX1_readCondition_35 (by decide) (fun q13 => ?_) (fun q13 => ?_)
        · have q4h12 := ((ah12 (List.replicate 5 true) (by simp) rfl)).1 (by omega)
          refine s_aload_n C dX1_readCondition_40 rfl ?_
          refine s_bipush C dX1_readCondition_41 (by decide) (fun z14 tz14 => ?_)
          refine s_callVV (st := []) C (c_X1_add l ad τ11 z14 hXτ11 (pv_op (by omega))) cv_X1_53 y68 rfl rfl rfl ⟨by decide, by decide⟩ (Nat.le_of_ble_eq_true rfl) dX1_readCondition_43 ?_
          intro τ16 h17
          have hXτ16 := h17.1
          have eh17 : τ16.1 66 1 = τ11.1 66 1 := h17.2.1.f 66 1 (by decide) (by decide)
          have kτ16 : pl τ16.1 = (pl τ11.1) := congrArg (fun z : Int32 => z.toInt.toNat) eh17
          have hSτ16 : TS t n pr τ16.1 := hSτ11.go h17.2.1 (by decide) (by decide) (by rw [eh17]; have := hSτ11.2.2.2.1; omega) (by rw [eh17]; have := hSτ11.2.2.2; omega)
          have pτ16 : pl τ16.1 ≤ n := hSτ16.2.2.2.2
          refine s_iinc C dX1_readCondition_46 rfl (by decide) rfl (by decide) (by omega) (fun z18 tz18 => ?_)
          show WP E ad 49 [some (.ref (ad 68)), some (.int d), some (.int z18)] [] τ16
          refine s_goto (tgt := 12) C dX1_readCondition_49 (by decide) ?_
          exact ih τ16 z18 (Fr.tr (Fr.tr (Fr.tr (Fr.tr Fr.rf (Fr.mo kF (by decide) (by decide))) (Fr.mo h7.2.1 (by decide) (by decide))) (Fr.mo h12.2.1 (by decide) (by decide))) (Fr.mo h17.2.1 (by decide) (by decide))) hXτ16 hSτ16 (by omega) (fun o ho ht => by rw [hA o ho ht, A_and x1h7 (by omega) ht, ((ah12 o ho ht).1 (by omega)).1, kτ16]) (by omega) (by rw [kτ16]; omega) (by omega)
        · skip
          refine s_iconst C dX1_readCondition_38 (by decide) (fun z19 tz19 => ?_)
          exact s_zret C (by omega) X dX1_readCondition_39 ⟨hXτ11, (Fr.tr (Fr.tr (Fr.tr Fr.rf (Fr.mo kF (by decide) (by decide))) (Fr.mo h7.2.1 (by decide) (by decide))) (Fr.mo h12.2.1 (by decide) (by decide))), hSτ11, by omega, (fun o ho ht => ⟨fun q => by omega, fun _ => by rw [hA o ho ht, A_and x1h7 (by omega) ht]; exact (ah12 o ho ht).2 (by omega)⟩)⟩
set_option maxRecDepth 100000 in
theorem f_readCondition_5 (l : Launch) (ad : Nat → Nat) (σ : Sg) (d : Int32) (hX : IX σ.1) (t : Nat → Int32) (n : Nat) (pr : Int) (hS : TS t n pr σ.1) (hd : d.toInt = 5) : Mt l yX1_readCondition cX1_readCondition 3 (some .boolean) 6 ad σ [.ref (ad 68), .int d] (oI (fun r τ => IX τ.1 ∧ Fr [69] [(66, 1), (68, 2)] σ τ ∧ TS t n pr τ.1 ∧ (r.toInt = 0 ∨ r.toInt = 1) ∧ CoF pr t n 5 (pl σ.1) (pl τ.1) r)) := by
  have hS5 := hS.2.2.2.2
  have hn60 : n ≤ 60 := by have q1 := hX.tl; have q2 := hS.2.1; omega
  refine Mt_intro (by decide +kernel) (by simp [lg_sl, Value.category]) (fun E C X => ?_)
  show WP E ad 0 [some (.ref (ad 68)), some (.int d), none] [] σ
  refine s_aload_n C dX1_readCondition_0 rfl ?_
  refine s_iload_n C dX1_readCondition_1 rfl ?_
  refine s_callVI (st := []) C (f_readAll_5 l ad σ d hX t n pr hS (by omega)) cv_X1_46 y68 rfl rfl rfl ⟨by decide, by decide⟩ (Nat.le_of_ble_eq_true rfl) dX1_readCondition_2 ?_
  intro r1 τ2 h3
  have hXτ2 := h3.1
  have hSτ2 := h3.2.2.1
  have bh3 := h3.2.2.2.1
  have pτ2 : pl τ2.1 ≤ n := hSτ2.2.2.2.2
  have ah3 : AlF pr t n 5 (pl σ.1) (pl τ2.1) r1 := h3.2.2.2.2
  refine s_if_ne (tgt := 10) C dX1_readCondition_5 (by decide) (fun q4 => ?_) (fun q4 => ?_)
  · have q4h3 := ((ah3 (List.replicate 5 true) (by simp) rfl)).1 (by omega)
    refine s_iconst C dX1_readCondition_10 (by decide) (fun z5 tz5 => ?_)
    refine s_istore_n C dX1_readCondition_11 (by decide) (Nat.le_of_ble_eq_true rfl) rfl ?_
    show WP E ad 12 [some (.ref (ad 68)), some (.int d), some (.int z5)] [] τ2
    exact L_freadCondition_5 l ad E σ t n pr d hd C X 100 τ2 z5 (Fr.tr Fr.rf (Fr.mo h3.2.1 (by decide) (by decide))) hXτ2 hSτ2 (by omega) (fun o ho ht => ((ah3 o ho ht).1 (by omega)).1) (by omega) q4h3.2.2 (by omega)
  · refine s_iconst C dX1_readCondition_8 (by decide) (fun z6 tz6 => ?_)
    exact s_zret C (by omega) X dX1_readCondition_9 ⟨hXτ2, (Fr.tr Fr.rf (Fr.mo h3.2.1 (by decide) (by decide))), hSτ2, by omega, (fun o ho ht => ⟨fun q => by omega, fun _ => (ah3 o ho ht).2 (by omega)⟩)⟩
set_option maxRecDepth 100000 in
theorem f_readTest_4 (l : Launch) (ad : Nat → Nat) (σ : Sg) (d : Int32) (hX : IX σ.1) (t : Nat → Int32) (n : Nat) (pr : Int) (hS : TS t n pr σ.1) (hd : d.toInt = 4) : Mt l yX1_readTest cX1_readTest 3 (some .boolean) 7 ad σ [.ref (ad 68), .int d] (oI (fun r τ => IX τ.1 ∧ Fr [69] [(66, 1), (68, 2)] σ τ ∧ TS t n pr τ.1 ∧ (r.toInt = 0 ∨ r.toInt = 1) ∧ TsF pr t n 4 (pl σ.1) (pl τ.1) r)) := by
  have hS5 := hS.2.2.2.2
  refine Mt_intro (by decide +kernel) (by simp [lg_sl, Value.category]) (fun E C X => ?_)
  show WP E ad 0 [some (.ref (ad 68)), some (.int d), none] [] σ
  refine s_aload_n C dX1_readTest_0 rfl ?_
  refine s_getr (k := 0) (j := 66) C y68 fw_X1_19 rfl dX1_readTest_1 ?_
  refine s_callVI (st := []) C (f_peek l ad σ hX t n pr hS) cv_X1_60 y66 rfl rfl rfl ⟨by decide, by decide⟩ (Nat.le_of_ble_eq_true rfl) dX1_readTest_4 ?_
  intro r1 τ2 h3
  obtain ⟨eh3, h3⟩ := h3; replace eh3 := eh3.symm; subst eh3
  refine s_istore_n C dX1_readTest_7 (by decide) (Nat.le_of_ble_eq_true rfl) rfl ?_
  show WP E ad 8 [some (.ref (ad 68)), some (.int d), some (.int r1)] [] σ
  have hpk := h3
  refine s_iload_n C dX1_readTest_8 rfl ?_
  refine s_bipush C dX1_readTest_9 (by decide) (fun z4 tz4 => ?_)
  refine s_icmp_eq (tgt := 25) C dX1_readTest_11 (by decide) (fun q5 => ?_) (fun q5 => ?_)
  · have hkn : pl σ.1 < n := by unfold tA at hpk; split at hpk <;> omega
    have hkc : (t (pl σ.1)).toInt = r1.toInt := by unfold tA at hpk; rw [if_pos hkn] at hpk; omega
    refine s_iload_n C dX1_readTest_25 rfl ?_
    refine s_iconst C dX1_readTest_26 (by decide) (fun z6 tz6 => ?_)
    refine s_icmp_lt (tgt := 32) C dX1_readTest_27 (by decide) (fun q7 => ?_) (fun q7 => ?_)
    · refine s_aload_n C dX1_readTest_32 rfl ?_
      refine s_getr (k := 0) (j := 66) C y68 fw_X1_19 rfl dX1_readTest_33 ?_
      refine s_iload_n C dX1_readTest_36 rfl ?_
      refine s_callVI (st := []) C (f_accept l ad σ r1 hX t n pr hS ) cv_X1_50 y66 rfl rfl rfl ⟨by decide, by decide⟩ (Nat.le_of_ble_eq_true rfl) dX1_readTest_37 ?_
      intro r8 τ9 h10
      have hXτ9 := h10.1
      have hSτ9 := h10.2.2.1
      have bh10 := h10.2.2.2.1
      have pτ9 : pl τ9.1 ≤ n := hSτ9.2.2.2.2
      have ah10 : AcF t n (pl σ.1) (pl τ9.1) r1 r8 := h10.2.2.2.2
      obtain ⟨x1h10, x2h10, x3h10⟩ := ah10.1 (by rcases bh10 with q | q; (have q2 := ah10.2 q; omega); exact q)
      refine s_pop C dX1_readTest_40 rfl ?_
      refine s_iload_n C dX1_readTest_41 rfl ?_
      refine s_bipush C dX1_readTest_42 (by decide) (fun z11 tz11 => ?_)
      refine s_icmp_ne (tgt := 75) C dX1_readTest_44 (by decide) (fun q12 => ?_) (fun q12 => ?_)
      · refine s_aload_n C dX1_readTest_75 rfl ?_
        refine s_iload_n C dX1_readTest_76 rfl ?_
        refine s_iconst C dX1_readTest_77 (by decide) (fun z13 tz13 => ?_)
        refine s_iadd C dX1_readTest_78 (by omega) (fun z14 tz14 => ?_)
        refine s_callVI (st := []) C (f_readTest_5 l ad τ9 z14 hXτ9 t n pr hSτ9 (by omega)) cv_X1_57 y68 rfl rfl rfl ⟨by decide, by decide⟩ (Nat.le_of_ble_eq_true rfl) dX1_readTest_79 ?_
        intro r15 τ16 h17
        have hXτ16 := h17.1
        have hSτ16 := h17.2.2.1
        have bh17 := h17.2.2.2.1
        have pτ16 : pl τ16.1 ≤ n := hSτ16.2.2.2.2
        have ah17 : TsF pr t n 5 ((pl σ.1) + 1) (pl τ16.1) r15 := by have q := h17.2.2.2.2; rw [x3h10] at q; exact q
        refine s_if_ne (tgt := 87) C dX1_readTest_82 (by decide) (fun q18 => ?_) (fun q18 => ?_)
        · have q4h17 := (ah17 (false :: List.replicate 4 false) (by simp)).1 (by omega)
          refine s_aload_n C dX1_readTest_87 rfl ?_
          refine s_bipush C dX1_readTest_88 (by decide) (fun z19 tz19 => ?_)
          refine s_callVV (st := []) C (c_X1_add l ad τ16 z19 hXτ16 (pv_op (by omega))) cv_X1_53 y68 rfl rfl rfl ⟨by decide, by decide⟩ (Nat.le_of_ble_eq_true rfl) dX1_readTest_90 ?_
          intro τ21 h22
          have hXτ21 := h22.1
          have eh22 : τ21.1 66 1 = τ16.1 66 1 := h22.2.1.f 66 1 (by decide) (by decide)
          have kτ21 : pl τ21.1 = (pl τ16.1) := congrArg (fun z : Int32 => z.toInt.toNat) eh22
          have hSτ21 : TS t n pr τ21.1 := hSτ16.go h22.2.1 (by decide) (by decide) (by rw [eh22]; have := hSτ16.2.2.2.1; omega) (by rw [eh22]; have := hSτ16.2.2.2; omega)
          have pτ21 : pl τ21.1 ≤ n := hSτ21.2.2.2.2
          skip
          refine s_iconst C dX1_readTest_93 (by decide) (fun z23 tz23 => ?_)
          exact s_zret C (by omega) X dX1_readTest_94 ⟨hXτ21, (Fr.tr (Fr.tr (Fr.tr Fr.rf (Fr.mo h10.2.1 (by decide) (by decide))) (Fr.mo h17.2.1 (by decide) (by decide))) (Fr.mo h22.2.1 (by decide) (by decide))), hSτ21, by omega, (by rw [kτ21]; exact (fun o ho => by have q5 := (ah17 (false :: o) (by rw [List.length_cons]; omega)).1 (by omega); exact ⟨fun _ => ⟨by rw [A_open x1h10 (by omega), if_neg (by omega), decide_eq_false (show ¬ (t (pl σ.1)).toInt = 40 by omega)]; rw [q5.1, A_not], by omega⟩, fun q => by omega⟩))⟩
        · skip
          refine s_iconst C dX1_readTest_85 (by decide) (fun z24 tz24 => ?_)
          exact s_zret C (by omega) X dX1_readTest_86 ⟨hXτ16, (Fr.tr (Fr.tr Fr.rf (Fr.mo h10.2.1 (by decide) (by decide))) (Fr.mo h17.2.1 (by decide) (by decide))), hSτ16, by omega, (fun o ho => ⟨fun q => by omega, fun _ => by rw [A_open x1h10 (by omega), if_neg (by omega), decide_eq_false (show ¬ (t (pl σ.1)).toInt = 40 by omega)]; exact (ah17 (false :: o) (by rw [List.length_cons]; omega)).2 (by omega)⟩)⟩
      · refine s_aload_n C dX1_readTest_47 rfl ?_
        refine s_iload_n C dX1_readTest_48 rfl ?_
        refine s_iconst C dX1_readTest_49 (by decide) (fun z25 tz25 => ?_)
        refine s_iadd C dX1_readTest_50 (by omega) (fun z26 tz26 => ?_)
        refine s_callVI (st := []) C (f_readCondition_5 l ad τ9 z26 hXτ9 t n pr hSτ9 (by omega)) cv_X1_68 y68 rfl rfl rfl ⟨by decide, by decide⟩ (Nat.le_of_ble_eq_true rfl) dX1_readTest_51 ?_
        intro r27 τ28 h29
        have hXτ28 := h29.1
        have hSτ28 := h29.2.2.1
        have bh29 := h29.2.2.2.1
        have pτ28 : pl τ28.1 ≤ n := hSτ28.2.2.2.2
        have ah29 : CoF pr t n 5 ((pl σ.1) + 1) (pl τ28.1) r27 := by have q := h29.2.2.2.2; rw [x3h10] at q; exact q
        refine s_if_eq (tgt := 73) C dX1_readTest_54 (by decide) (fun q30 => ?_) (fun q30 => ?_)
        · refine s_iconst C dX1_readTest_73 (by decide) (fun z31 tz31 => ?_)
          exact s_zret C (by omega) X dX1_readTest_74 ⟨hXτ28, (Fr.tr (Fr.tr Fr.rf (Fr.mo h10.2.1 (by decide) (by decide))) (Fr.mo h29.2.1 (by decide) (by decide))), hSτ28, by omega, (fun o ho => ⟨fun q => by omega, fun _ => by rw [A_open x1h10 (by omega), if_neg (by omega), decide_eq_true (show (t (pl σ.1)).toInt = 40 by omega)]; exact (ah29 (true :: o) (by rw [List.length_cons]; omega) rfl).2 (by omega)⟩)⟩
        · have q4h29 := (ah29 (true :: List.replicate 4 false) (by simp) rfl).1 (by omega)
          refine s_aload_n C dX1_readTest_57 rfl ?_
          refine s_getr (k := 0) (j := 66) C y68 fw_X1_19 rfl dX1_readTest_58 ?_
          refine s_bipush C dX1_readTest_61 (by decide) (fun z32 tz32 => ?_)
          refine s_callVI (st := []) C (f_accept l ad τ28 z32 hXτ28 t n pr hSτ28 ) cv_X1_50 y66 rfl rfl rfl ⟨by decide, by decide⟩ (Nat.le_of_ble_eq_true rfl) dX1_readTest_63 ?_
          intro r33 τ34 h35
          have hXτ34 := h35.1
          have hSτ34 := h35.2.2.1
          have bh35 := h35.2.2.2.1
          have pτ34 : pl τ34.1 ≤ n := hSτ34.2.2.2.2
          have ah35 : AcF t n (pl τ28.1) (pl τ34.1) z32 r33 := h35.2.2.2.2
          refine s_if_eq (tgt := 73) C dX1_readTest_66 (by decide) (fun q36 => ?_) (fun q36 => ?_)
          · obtain ⟨y1h35, y2h35⟩ := ah35.2 (by omega)
            refine s_iconst C dX1_readTest_73 (by decide) (fun z37 tz37 => ?_)
            exact s_zret C (by omega) X dX1_readTest_74 ⟨hXτ34, (Fr.tr (Fr.tr (Fr.tr Fr.rf (Fr.mo h10.2.1 (by decide) (by decide))) (Fr.mo h29.2.1 (by decide) (by decide))) (Fr.mo h35.2.1 (by decide) (by decide))), hSτ34, by omega, (by rw [y2h35]; exact (fun o ho => by have q5 := (ah29 (true :: o) (by rw [List.length_cons]; omega) rfl).1 (by omega); exact ⟨fun q => by omega, fun _ => by rw [A_open x1h10 (by omega), if_neg (by omega), decide_eq_true (show (t (pl σ.1)).toInt = 40 by omega)]; rw [q5.1, A_stop3 (by omega) q5.2.2 (y1h35.elim Or.inl (fun z => Or.inr (Or.inl (by omega)))) (Or.inr (by simp))]⟩))⟩
          · obtain ⟨x1h35, x2h35, x3h35⟩ := ah35.1 (by omega)
            refine s_iconst C dX1_readTest_69 (by decide) (fun z38 tz38 => ?_)
            refine s_goto (tgt := 74) C dX1_readTest_70 (by decide) ?_
            exact s_zret C (by omega) X dX1_readTest_74 ⟨hXτ34, (Fr.tr (Fr.tr (Fr.tr Fr.rf (Fr.mo h10.2.1 (by decide) (by decide))) (Fr.mo h29.2.1 (by decide) (by decide))) (Fr.mo h35.2.1 (by decide) (by decide))), hSτ34, by omega, (by rw [x3h35]; exact (fun o ho => by have q5 := (ah29 (true :: o) (by rw [List.length_cons]; omega) rfl).1 (by omega); exact ⟨fun _ => ⟨by rw [A_open x1h10 (by omega), if_neg (by omega), decide_eq_true (show (t (pl σ.1)).toInt = 40 by omega)]; rw [q5.1, A_close x1h35 (by omega)], by omega⟩, fun q => by omega⟩))⟩
    · omega
  · refine s_iload_n C dX1_readTest_14 rfl ?_
    refine s_bipush C dX1_readTest_15 (by decide) (fun z39 tz39 => ?_)
    refine s_icmp_eq (tgt := 25) C dX1_readTest_17 (by decide) (fun q40 => ?_) (fun q40 => ?_)
    · have hkn : pl σ.1 < n := by unfold tA at hpk; split at hpk <;> omega
      have hkc : (t (pl σ.1)).toInt = r1.toInt := by unfold tA at hpk; rw [if_pos hkn] at hpk; omega
      refine s_iload_n C dX1_readTest_25 rfl ?_
      refine s_iconst C dX1_readTest_26 (by decide) (fun z41 tz41 => ?_)
      refine s_icmp_lt (tgt := 32) C dX1_readTest_27 (by decide) (fun q42 => ?_) (fun q42 => ?_)
      · refine s_aload_n C dX1_readTest_32 rfl ?_
        refine s_getr (k := 0) (j := 66) C y68 fw_X1_19 rfl dX1_readTest_33 ?_
        refine s_iload_n C dX1_readTest_36 rfl ?_
        refine s_callVI (st := []) C (f_accept l ad σ r1 hX t n pr hS ) cv_X1_50 y66 rfl rfl rfl ⟨by decide, by decide⟩ (Nat.le_of_ble_eq_true rfl) dX1_readTest_37 ?_
        intro r43 τ44 h45
        have hXτ44 := h45.1
        have hSτ44 := h45.2.2.1
        have bh45 := h45.2.2.2.1
        have pτ44 : pl τ44.1 ≤ n := hSτ44.2.2.2.2
        have ah45 : AcF t n (pl σ.1) (pl τ44.1) r1 r43 := h45.2.2.2.2
        obtain ⟨x1h45, x2h45, x3h45⟩ := ah45.1 (by rcases bh45 with q | q; (have q2 := ah45.2 q; omega); exact q)
        refine s_pop C dX1_readTest_40 rfl ?_
        refine s_iload_n C dX1_readTest_41 rfl ?_
        refine s_bipush C dX1_readTest_42 (by decide) (fun z46 tz46 => ?_)
        refine s_icmp_ne (tgt := 75) C dX1_readTest_44 (by decide) (fun q47 => ?_) (fun q47 => ?_)
        · refine s_aload_n C dX1_readTest_75 rfl ?_
          refine s_iload_n C dX1_readTest_76 rfl ?_
          refine s_iconst C dX1_readTest_77 (by decide) (fun z48 tz48 => ?_)
          refine s_iadd C dX1_readTest_78 (by omega) (fun z49 tz49 => ?_)
          refine s_callVI (st := []) C (f_readTest_5 l ad τ44 z49 hXτ44 t n pr hSτ44 (by omega)) cv_X1_57 y68 rfl rfl rfl ⟨by decide, by decide⟩ (Nat.le_of_ble_eq_true rfl) dX1_readTest_79 ?_
          intro r50 τ51 h52
          have hXτ51 := h52.1
          have hSτ51 := h52.2.2.1
          have bh52 := h52.2.2.2.1
          have pτ51 : pl τ51.1 ≤ n := hSτ51.2.2.2.2
          have ah52 : TsF pr t n 5 ((pl σ.1) + 1) (pl τ51.1) r50 := by have q := h52.2.2.2.2; rw [x3h45] at q; exact q
          refine s_if_ne (tgt := 87) C dX1_readTest_82 (by decide) (fun q53 => ?_) (fun q53 => ?_)
          · have q4h52 := (ah52 (false :: List.replicate 4 false) (by simp)).1 (by omega)
            refine s_aload_n C dX1_readTest_87 rfl ?_
            refine s_bipush C dX1_readTest_88 (by decide) (fun z54 tz54 => ?_)
            refine s_callVV (st := []) C (c_X1_add l ad τ51 z54 hXτ51 (pv_op (by omega))) cv_X1_53 y68 rfl rfl rfl ⟨by decide, by decide⟩ (Nat.le_of_ble_eq_true rfl) dX1_readTest_90 ?_
            intro τ56 h57
            have hXτ56 := h57.1
            have eh57 : τ56.1 66 1 = τ51.1 66 1 := h57.2.1.f 66 1 (by decide) (by decide)
            have kτ56 : pl τ56.1 = (pl τ51.1) := congrArg (fun z : Int32 => z.toInt.toNat) eh57
            have hSτ56 : TS t n pr τ56.1 := hSτ51.go h57.2.1 (by decide) (by decide) (by rw [eh57]; have := hSτ51.2.2.2.1; omega) (by rw [eh57]; have := hSτ51.2.2.2; omega)
            have pτ56 : pl τ56.1 ≤ n := hSτ56.2.2.2.2
            skip
            refine s_iconst C dX1_readTest_93 (by decide) (fun z58 tz58 => ?_)
            exact s_zret C (by omega) X dX1_readTest_94 ⟨hXτ56, (Fr.tr (Fr.tr (Fr.tr Fr.rf (Fr.mo h45.2.1 (by decide) (by decide))) (Fr.mo h52.2.1 (by decide) (by decide))) (Fr.mo h57.2.1 (by decide) (by decide))), hSτ56, by omega, (by rw [kτ56]; exact (fun o ho => by have q5 := (ah52 (false :: o) (by rw [List.length_cons]; omega)).1 (by omega); exact ⟨fun _ => ⟨by rw [A_open x1h45 (by omega), if_neg (by omega), decide_eq_false (show ¬ (t (pl σ.1)).toInt = 40 by omega)]; rw [q5.1, A_not], by omega⟩, fun q => by omega⟩))⟩
          · skip
            refine s_iconst C dX1_readTest_85 (by decide) (fun z59 tz59 => ?_)
            exact s_zret C (by omega) X dX1_readTest_86 ⟨hXτ51, (Fr.tr (Fr.tr Fr.rf (Fr.mo h45.2.1 (by decide) (by decide))) (Fr.mo h52.2.1 (by decide) (by decide))), hSτ51, by omega, (fun o ho => ⟨fun q => by omega, fun _ => by rw [A_open x1h45 (by omega), if_neg (by omega), decide_eq_false (show ¬ (t (pl σ.1)).toInt = 40 by omega)]; exact (ah52 (false :: o) (by rw [List.length_cons]; omega)).2 (by omega)⟩)⟩
        · refine s_aload_n C dX1_readTest_47 rfl ?_
          refine s_iload_n C dX1_readTest_48 rfl ?_
          refine s_iconst C dX1_readTest_49 (by decide) (fun z60 tz60 => ?_)
          refine s_iadd C dX1_readTest_50 (by omega) (fun z61 tz61 => ?_)
          refine s_callVI (st := []) C (f_readCondition_5 l ad τ44 z61 hXτ44 t n pr hSτ44 (by omega)) cv_X1_68 y68 rfl rfl rfl ⟨by decide, by decide⟩ (Nat.le_of_ble_eq_true rfl) dX1_readTest_51 ?_
          intro r62 τ63 h64
          have hXτ63 := h64.1
          have hSτ63 := h64.2.2.1
          have bh64 := h64.2.2.2.1
          have pτ63 : pl τ63.1 ≤ n := hSτ63.2.2.2.2
          have ah64 : CoF pr t n 5 ((pl σ.1) + 1) (pl τ63.1) r62 := by have q := h64.2.2.2.2; rw [x3h45] at q; exact q
          refine s_if_eq (tgt := 73) C dX1_readTest_54 (by decide) (fun q65 => ?_) (fun q65 => ?_)
          · refine s_iconst C dX1_readTest_73 (by decide) (fun z66 tz66 => ?_)
            exact s_zret C (by omega) X dX1_readTest_74 ⟨hXτ63, (Fr.tr (Fr.tr Fr.rf (Fr.mo h45.2.1 (by decide) (by decide))) (Fr.mo h64.2.1 (by decide) (by decide))), hSτ63, by omega, (fun o ho => ⟨fun q => by omega, fun _ => by rw [A_open x1h45 (by omega), if_neg (by omega), decide_eq_true (show (t (pl σ.1)).toInt = 40 by omega)]; exact (ah64 (true :: o) (by rw [List.length_cons]; omega) rfl).2 (by omega)⟩)⟩
          · have q4h64 := (ah64 (true :: List.replicate 4 false) (by simp) rfl).1 (by omega)
            refine s_aload_n C dX1_readTest_57 rfl ?_
            refine s_getr (k := 0) (j := 66) C y68 fw_X1_19 rfl dX1_readTest_58 ?_
            refine s_bipush C dX1_readTest_61 (by decide) (fun z67 tz67 => ?_)
            refine s_callVI (st := []) C (f_accept l ad τ63 z67 hXτ63 t n pr hSτ63 ) cv_X1_50 y66 rfl rfl rfl ⟨by decide, by decide⟩ (Nat.le_of_ble_eq_true rfl) dX1_readTest_63 ?_
            intro r68 τ69 h70
            have hXτ69 := h70.1
            have hSτ69 := h70.2.2.1
            have bh70 := h70.2.2.2.1
            have pτ69 : pl τ69.1 ≤ n := hSτ69.2.2.2.2
            have ah70 : AcF t n (pl τ63.1) (pl τ69.1) z67 r68 := h70.2.2.2.2
            refine s_if_eq (tgt := 73) C dX1_readTest_66 (by decide) (fun q71 => ?_) (fun q71 => ?_)
            · obtain ⟨y1h70, y2h70⟩ := ah70.2 (by omega)
              refine s_iconst C dX1_readTest_73 (by decide) (fun z72 tz72 => ?_)
              exact s_zret C (by omega) X dX1_readTest_74 ⟨hXτ69, (Fr.tr (Fr.tr (Fr.tr Fr.rf (Fr.mo h45.2.1 (by decide) (by decide))) (Fr.mo h64.2.1 (by decide) (by decide))) (Fr.mo h70.2.1 (by decide) (by decide))), hSτ69, by omega, (by rw [y2h70]; exact (fun o ho => by have q5 := (ah64 (true :: o) (by rw [List.length_cons]; omega) rfl).1 (by omega); exact ⟨fun q => by omega, fun _ => by rw [A_open x1h45 (by omega), if_neg (by omega), decide_eq_true (show (t (pl σ.1)).toInt = 40 by omega)]; rw [q5.1, A_stop3 (by omega) q5.2.2 (y1h70.elim Or.inl (fun z => Or.inr (Or.inl (by omega)))) (Or.inr (by simp))]⟩))⟩
            · obtain ⟨x1h70, x2h70, x3h70⟩ := ah70.1 (by omega)
              refine s_iconst C dX1_readTest_69 (by decide) (fun z73 tz73 => ?_)
              refine s_goto (tgt := 74) C dX1_readTest_70 (by decide) ?_
              exact s_zret C (by omega) X dX1_readTest_74 ⟨hXτ69, (Fr.tr (Fr.tr (Fr.tr Fr.rf (Fr.mo h45.2.1 (by decide) (by decide))) (Fr.mo h64.2.1 (by decide) (by decide))) (Fr.mo h70.2.1 (by decide) (by decide))), hSτ69, by omega, (by rw [x3h70]; exact (fun o ho => by have q5 := (ah64 (true :: o) (by rw [List.length_cons]; omega) rfl).1 (by omega); exact ⟨fun _ => ⟨by rw [A_open x1h45 (by omega), if_neg (by omega), decide_eq_true (show (t (pl σ.1)).toInt = 40 by omega)]; rw [q5.1, A_close x1h70 (by omega)], by omega⟩, fun q => by omega⟩))⟩
      · omega
    · skip
      have hc : n ≤ pl σ.1 ∨ ¬ ((t (pl σ.1)).toInt = 33 ∨ (t (pl σ.1)).toInt = 40) := by unfold tA at hpk; split at hpk <;> omega
      refine s_aload_n C dX1_readTest_20 rfl ?_
      refine s_callVI (st := []) C (f_readComparison l ad σ  hX t n pr hS ) cv_X1_64 y68 rfl rfl rfl ⟨by decide, by decide⟩ (Nat.le_of_ble_eq_true rfl) dX1_readTest_21 ?_
      intro r74 τ75 h76
      have hXτ75 := h76.1
      have hSτ75 := h76.2.2.1
      have bh76 := h76.2.2.2.1
      have pτ75 : pl τ75.1 ≤ n := hSτ75.2.2.2.2
      have ah76 : CmF pr t n (pl σ.1) (pl τ75.1) r74 := h76.2.2.2.2
      exact s_zret C (by omega) X dX1_readTest_24 ⟨hXτ75, (Fr.tr Fr.rf (Fr.mo h76.2.1 (by decide) (by decide))), hSτ75, by omega, (fun o ho => ah76 hc o)⟩
set_option maxRecDepth 100000 in
theorem L_freadAll_4 (l : Launch) (ad : Nat → Nat) (E : Ev) (σ : Sg) (t : Nat → Int32) (n : Nat) (pr : Int) (d : Int32) (hd : d.toInt = 4) (C : Cx E l (rmk 8) 3 cX1_readAll RX1) (X : Rx E ad (some .boolean) (oI (fun r τ => IX τ.1 ∧ Fr [69] [(66, 1), (68, 2)] σ τ ∧ TS t n pr τ.1 ∧ (r.toInt = 0 ∨ r.toInt = 1) ∧ AlF pr t n 4 (pl σ.1) (pl τ.1) r)))  : ∀ (mm : Nat) (τ : Sg) (z : Int32), (Fr [69] [(66, 1), (68, 2)] σ τ) → (IX τ.1) → (TS t n pr τ.1) → (0 ≤ z.toInt ∧ z.toInt ≤ pl τ.1) → (∀ o : List Bool, o.length = 4 → te o = o → Au pr t n 0 o (pl σ.1) = Au pr t n 3 o (pl τ.1)) → (pl σ.1 < pl τ.1) → (60 - z.toInt).toNat < mm → WP E ad 12 [some (.ref (ad 68)), some (.int d), some (.int z)] [] τ := by
  intro mm
  induction mm with
  | zero => intro τ z kF hXτ hSτ h0 hA hgt hm9; exact absurd hm9 (Nat.not_lt_zero _)
  | succ mm ih =>
    intro τ z kF hXτ hSτ h0 hA hgt hm9
    have hS5 : pl τ.1 ≤ n := hSτ.2.2.2.2
    have hn60 : n ≤ 60 := by have q1 := hXτ.tl; have q2 := hSτ.2.1; omega
    refine s_iload_n C dX1_readAll_12 rfl ?_
    refine s_bipush C dX1_readAll_13 (by decide) (fun z1 tz1 => ?_)
    refine s_icmp_ge (tgt := 52) C dX1_readAll_15 (by decide) (fun q2 => ?_) (fun q2 => ?_)
    · skip
      refine s_iconst C dX1_readAll_52 (by decide) (fun z3 tz3 => ?_)
      exact s_zret C (by omega) X dX1_readAll_53 ⟨hXτ, (Fr.tr Fr.rf (Fr.mo kF (by decide) (by decide))), hSτ, by omega, (fun o ho ht => ⟨fun _ => ⟨hA o ho ht, hgt, by omega⟩, fun q => by omega⟩)⟩
    · refine s_aload_n C dX1_readAll_18 rfl ?_
      refine s_getr (k := 0) (j := 66) C y68 fw_X1_19 rfl dX1_readAll_19 ?_
      refine s_bipush C dX1_readAll_22 (by decide) (fun z4 tz4 => ?_)
      refine s_callVI (st := []) C (f_accept l ad τ z4 hXτ t n pr hSτ ) cv_X1_50 y66 rfl rfl rfl ⟨by decide, by decide⟩ (Nat.le_of_ble_eq_true rfl) dX1_readAll_24 ?_
      intro r5 τ6 h7
      have hXτ6 := h7.1
      have hSτ6 := h7.2.2.1
      have bh7 := h7.2.2.2.1
      have pτ6 : pl τ6.1 ≤ n := hSτ6.2.2.2.2
      have ah7 : AcF t n (pl τ.1) (pl τ6.1) z4 r5 := h7.2.2.2.2
      refine s_if_eq (tgt := 52) C dX1_readAll_27 (by decide) (fun q8 => ?_) (fun q8 => ?_)
      · obtain ⟨y1h7, y2h7⟩ := ah7.2 (by omega)
        skip
        refine s_iconst C dX1_readAll_52 (by decide) (fun z9 tz9 => ?_)
        exact s_zret C (by omega) X dX1_readAll_53 ⟨hXτ6, (Fr.tr (Fr.tr Fr.rf (Fr.mo kF (by decide) (by decide))) (Fr.mo h7.2.1 (by decide) (by decide))), hSτ6, by omega, (by rw [y2h7]; exact (fun o ho ht => ⟨fun _ => ⟨hA o ho ht, hgt, by omega⟩, fun q => by omega⟩))⟩
      · obtain ⟨x1h7, x2h7, x3h7⟩ := ah7.1 (by omega)
        refine s_aload_n C dX1_readAll_30 rfl ?_
        refine s_iload_n C dX1_readAll_31 rfl ?_
        refine s_callVI (st := []) C (f_readTest_4 l ad τ6 d hXτ6 t n pr hSτ6 (by omega)) cv_X1_57 y68 rfl rfl rfl ⟨by decide, by decide⟩ (Nat.le_of_ble_eq_true rfl) dX1_readAll_32 ?_
        intro r10 τ11 h12
        have hXτ11 := h12.1
        have hSτ11 := h12.2.2.1
        have bh12 := h12.2.2.2.1
        have pτ11 : pl τ11.1 ≤ n := hSτ11.2.2.2.2
        have ah12 : TsF pr t n 4 ((pl τ.1) + 1) (pl τ11.1) r10 := by have q := h12.2.2.2.2; rw [x3h7] at q; exact q
        refine s_if_ne (tgt := 40) C dX1_readAll_35 (by decide) (fun q13 => ?_) (fun q13 => ?_)
        · have q4h12 := ((ah12 (List.replicate 4 true) (by simp))).1 (by omega)
          refine s_aload_n C dX1_readAll_40 rfl ?_
          refine s_bipush C dX1_readAll_41 (by decide) (fun z14 tz14 => ?_)
          refine s_callVV (st := []) C (c_X1_add l ad τ11 z14 hXτ11 (pv_op (by omega))) cv_X1_53 y68 rfl rfl rfl ⟨by decide, by decide⟩ (Nat.le_of_ble_eq_true rfl) dX1_readAll_43 ?_
          intro τ16 h17
          have hXτ16 := h17.1
          have eh17 : τ16.1 66 1 = τ11.1 66 1 := h17.2.1.f 66 1 (by decide) (by decide)
          have kτ16 : pl τ16.1 = (pl τ11.1) := congrArg (fun z : Int32 => z.toInt.toNat) eh17
          have hSτ16 : TS t n pr τ16.1 := hSτ11.go h17.2.1 (by decide) (by decide) (by rw [eh17]; have := hSτ11.2.2.2.1; omega) (by rw [eh17]; have := hSτ11.2.2.2; omega)
          have pτ16 : pl τ16.1 ≤ n := hSτ16.2.2.2.2
          refine s_iinc C dX1_readAll_46 rfl (by decide) rfl (by decide) (by omega) (fun z18 tz18 => ?_)
          show WP E ad 49 [some (.ref (ad 68)), some (.int d), some (.int z18)] [] τ16
          refine s_goto (tgt := 12) C dX1_readAll_49 (by decide) ?_
          exact ih τ16 z18 (Fr.tr (Fr.tr (Fr.tr (Fr.tr Fr.rf (Fr.mo kF (by decide) (by decide))) (Fr.mo h7.2.1 (by decide) (by decide))) (Fr.mo h12.2.1 (by decide) (by decide))) (Fr.mo h17.2.1 (by decide) (by decide))) hXτ16 hSτ16 (by omega) (fun o ho ht => by rw [hA o ho ht, A_and x1h7 (by omega) ht, ((ah12 o ho).1 (by omega)).1, kτ16]) (by omega) (by omega)
        · skip
          refine s_iconst C dX1_readAll_38 (by decide) (fun z19 tz19 => ?_)
          exact s_zret C (by omega) X dX1_readAll_39 ⟨hXτ11, (Fr.tr (Fr.tr (Fr.tr Fr.rf (Fr.mo kF (by decide) (by decide))) (Fr.mo h7.2.1 (by decide) (by decide))) (Fr.mo h12.2.1 (by decide) (by decide))), hSτ11, by omega, (fun o ho ht => ⟨fun q => by omega, fun _ => by rw [hA o ho ht, A_and x1h7 (by omega) ht]; exact (ah12 o ho).2 (by omega)⟩)⟩
set_option maxRecDepth 100000 in
theorem f_readAll_4 (l : Launch) (ad : Nat → Nat) (σ : Sg) (d : Int32) (hX : IX σ.1) (t : Nat → Int32) (n : Nat) (pr : Int) (hS : TS t n pr σ.1) (hd : d.toInt = 4) : Mt l yX1_readAll cX1_readAll 3 (some .boolean) 8 ad σ [.ref (ad 68), .int d] (oI (fun r τ => IX τ.1 ∧ Fr [69] [(66, 1), (68, 2)] σ τ ∧ TS t n pr τ.1 ∧ (r.toInt = 0 ∨ r.toInt = 1) ∧ AlF pr t n 4 (pl σ.1) (pl τ.1) r)) := by
  have hS5 := hS.2.2.2.2
  have hn60 : n ≤ 60 := by have q1 := hX.tl; have q2 := hS.2.1; omega
  refine Mt_intro (by decide +kernel) (by simp [lg_sl, Value.category]) (fun E C X => ?_)
  show WP E ad 0 [some (.ref (ad 68)), some (.int d), none] [] σ
  refine s_aload_n C dX1_readAll_0 rfl ?_
  refine s_iload_n C dX1_readAll_1 rfl ?_
  refine s_callVI (st := []) C (f_readTest_4 l ad σ d hX t n pr hS (by omega)) cv_X1_57 y68 rfl rfl rfl ⟨by decide, by decide⟩ (Nat.le_of_ble_eq_true rfl) dX1_readAll_2 ?_
  intro r1 τ2 h3
  have hXτ2 := h3.1
  have hSτ2 := h3.2.2.1
  have bh3 := h3.2.2.2.1
  have pτ2 : pl τ2.1 ≤ n := hSτ2.2.2.2.2
  have ah3 : TsF pr t n 4 (pl σ.1) (pl τ2.1) r1 := h3.2.2.2.2
  refine s_if_ne (tgt := 10) C dX1_readAll_5 (by decide) (fun q4 => ?_) (fun q4 => ?_)
  · have q4h3 := ((ah3 (List.replicate 4 true) (by simp))).1 (by omega)
    refine s_iconst C dX1_readAll_10 (by decide) (fun z5 tz5 => ?_)
    refine s_istore_n C dX1_readAll_11 (by decide) (Nat.le_of_ble_eq_true rfl) rfl ?_
    show WP E ad 12 [some (.ref (ad 68)), some (.int d), some (.int z5)] [] τ2
    exact L_freadAll_4 l ad E σ t n pr d hd C X 100 τ2 z5 (Fr.tr Fr.rf (Fr.mo h3.2.1 (by decide) (by decide))) hXτ2 hSτ2 (by omega) (fun o ho ht => ((ah3 o ho).1 (by omega)).1) (by omega) (by omega)
  · refine s_iconst C dX1_readAll_8 (by decide) (fun z6 tz6 => ?_)
    exact s_zret C (by omega) X dX1_readAll_9 ⟨hXτ2, (Fr.tr Fr.rf (Fr.mo h3.2.1 (by decide) (by decide))), hSτ2, by omega, (fun o ho ht => ⟨fun q => by omega, fun _ => (ah3 o ho).2 (by omega)⟩)⟩
set_option maxRecDepth 100000 in
theorem L_freadCondition_4 (l : Launch) (ad : Nat → Nat) (E : Ev) (σ : Sg) (t : Nat → Int32) (n : Nat) (pr : Int) (d : Int32) (hd : d.toInt = 4) (C : Cx E l (rmk 9) 3 cX1_readCondition RX1) (X : Rx E ad (some .boolean) (oI (fun r τ => IX τ.1 ∧ Fr [69] [(66, 1), (68, 2)] σ τ ∧ TS t n pr τ.1 ∧ (r.toInt = 0 ∨ r.toInt = 1) ∧ CoF pr t n 4 (pl σ.1) (pl τ.1) r)))  : ∀ (mm : Nat) (τ : Sg) (z : Int32), (Fr [69] [(66, 1), (68, 2)] σ τ) → (IX τ.1) → (TS t n pr τ.1) → (0 ≤ z.toInt ∧ z.toInt ≤ pl τ.1) → (∀ o : List Bool, o.length = 4 → te o = o → Au pr t n 0 o (pl σ.1) = Au pr t n 3 o (pl τ.1)) → (pl σ.1 < pl τ.1) → ((n ≤ pl τ.1 ∨ ¬ (t (pl τ.1)).toInt = 38)) → (60 - z.toInt).toNat < mm → WP E ad 12 [some (.ref (ad 68)), some (.int d), some (.int z)] [] τ := by
  intro mm
  induction mm with
  | zero => intro τ z kF hXτ hSτ h0 hA hgt hst hm9; exact absurd hm9 (Nat.not_lt_zero _)
  | succ mm ih =>
    intro τ z kF hXτ hSτ h0 hA hgt hst hm9
    have hS5 : pl τ.1 ≤ n := hSτ.2.2.2.2
    have hn60 : n ≤ 60 := by have q1 := hXτ.tl; have q2 := hSτ.2.1; omega
    refine s_iload_n C dX1_readCondition_12 rfl ?_
    refine s_bipush C dX1_readCondition_13 (by decide) (fun z1 tz1 => ?_)
    refine s_icmp_ge (tgt := 52) C dX1_readCondition_15 (by decide) (fun q2 => ?_) (fun q2 => ?_)
    · skip
      refine s_iconst C dX1_readCondition_52 (by decide) (fun z3 tz3 => ?_)
      exact s_zret C (by omega) X dX1_readCondition_53 ⟨hXτ, (Fr.tr Fr.rf (Fr.mo kF (by decide) (by decide))), hSτ, by omega, (fun o ho ht => ⟨fun _ => ⟨hA o ho ht, hgt, by omega⟩, fun q => by omega⟩)⟩
    · refine s_aload_n C dX1_readCondition_18 rfl ?_
      refine s_getr (k := 0) (j := 66) C y68 fw_X1_19 rfl dX1_readCondition_19 ?_
      refine s_bipush C dX1_readCondition_22 (by decide) (fun z4 tz4 => ?_)
      refine s_callVI (st := []) C (f_accept l ad τ z4 hXτ t n pr hSτ ) cv_X1_50 y66 rfl rfl rfl ⟨by decide, by decide⟩ (Nat.le_of_ble_eq_true rfl) dX1_readCondition_24 ?_
      intro r5 τ6 h7
      have hXτ6 := h7.1
      have hSτ6 := h7.2.2.1
      have bh7 := h7.2.2.2.1
      have pτ6 : pl τ6.1 ≤ n := hSτ6.2.2.2.2
      have ah7 : AcF t n (pl τ.1) (pl τ6.1) z4 r5 := h7.2.2.2.2
      refine s_if_eq (tgt := 52) C dX1_readCondition_27 (by decide) (fun q8 => ?_) (fun q8 => ?_)
      · obtain ⟨y1h7, y2h7⟩ := ah7.2 (by omega)
        skip
        refine s_iconst C dX1_readCondition_52 (by decide) (fun z9 tz9 => ?_)
        exact s_zret C (by omega) X dX1_readCondition_53 ⟨hXτ6, (Fr.tr (Fr.tr Fr.rf (Fr.mo kF (by decide) (by decide))) (Fr.mo h7.2.1 (by decide) (by decide))), hSτ6, by omega, (by rw [y2h7]; exact (fun o ho ht => ⟨fun _ => ⟨hA o ho ht, hgt, by omega⟩, fun q => by omega⟩))⟩
      · obtain ⟨x1h7, x2h7, x3h7⟩ := ah7.1 (by omega)
        refine s_aload_n C dX1_readCondition_30 rfl ?_
        refine s_iload_n C dX1_readCondition_31 rfl ?_
        refine s_callVI (st := []) C (f_readAll_4 l ad τ6 d hXτ6 t n pr hSτ6 (by omega)) cv_X1_46 y68 rfl rfl rfl ⟨by decide, by decide⟩ (Nat.le_of_ble_eq_true rfl) dX1_readCondition_32 ?_
        intro r10 τ11 h12
        have hXτ11 := h12.1
        have hSτ11 := h12.2.2.1
        have bh12 := h12.2.2.2.1
        have pτ11 : pl τ11.1 ≤ n := hSτ11.2.2.2.2
        have ah12 : AlF pr t n 4 ((pl τ.1) + 1) (pl τ11.1) r10 := by have q := h12.2.2.2.2; rw [x3h7] at q; exact q
        refine s_if_ne (tgt := 40) C dX1_readCondition_35 (by decide) (fun q13 => ?_) (fun q13 => ?_)
        · have q4h12 := ((ah12 (List.replicate 4 true) (by simp) rfl)).1 (by omega)
          refine s_aload_n C dX1_readCondition_40 rfl ?_
          refine s_bipush C dX1_readCondition_41 (by decide) (fun z14 tz14 => ?_)
          refine s_callVV (st := []) C (c_X1_add l ad τ11 z14 hXτ11 (pv_op (by omega))) cv_X1_53 y68 rfl rfl rfl ⟨by decide, by decide⟩ (Nat.le_of_ble_eq_true rfl) dX1_readCondition_43 ?_
          intro τ16 h17
          have hXτ16 := h17.1
          have eh17 : τ16.1 66 1 = τ11.1 66 1 := h17.2.1.f 66 1 (by decide) (by decide)
          have kτ16 : pl τ16.1 = (pl τ11.1) := congrArg (fun z : Int32 => z.toInt.toNat) eh17
          have hSτ16 : TS t n pr τ16.1 := hSτ11.go h17.2.1 (by decide) (by decide) (by rw [eh17]; have := hSτ11.2.2.2.1; omega) (by rw [eh17]; have := hSτ11.2.2.2; omega)
          have pτ16 : pl τ16.1 ≤ n := hSτ16.2.2.2.2
          refine s_iinc C dX1_readCondition_46 rfl (by decide) rfl (by decide) (by omega) (fun z18 tz18 => ?_)
          show WP E ad 49 [some (.ref (ad 68)), some (.int d), some (.int z18)] [] τ16
          refine s_goto (tgt := 12) C dX1_readCondition_49 (by decide) ?_
          exact ih τ16 z18 (Fr.tr (Fr.tr (Fr.tr (Fr.tr Fr.rf (Fr.mo kF (by decide) (by decide))) (Fr.mo h7.2.1 (by decide) (by decide))) (Fr.mo h12.2.1 (by decide) (by decide))) (Fr.mo h17.2.1 (by decide) (by decide))) hXτ16 hSτ16 (by omega) (fun o ho ht => by rw [hA o ho ht, A_and x1h7 (by omega) ht, ((ah12 o ho ht).1 (by omega)).1, kτ16]) (by omega) (by rw [kτ16]; omega) (by omega)
        · skip
          refine s_iconst C dX1_readCondition_38 (by decide) (fun z19 tz19 => ?_)
          exact s_zret C (by omega) X dX1_readCondition_39 ⟨hXτ11, (Fr.tr (Fr.tr (Fr.tr Fr.rf (Fr.mo kF (by decide) (by decide))) (Fr.mo h7.2.1 (by decide) (by decide))) (Fr.mo h12.2.1 (by decide) (by decide))), hSτ11, by omega, (fun o ho ht => ⟨fun q => by omega, fun _ => by rw [hA o ho ht, A_and x1h7 (by omega) ht]; exact (ah12 o ho ht).2 (by omega)⟩)⟩
set_option maxRecDepth 100000 in
theorem f_readCondition_4 (l : Launch) (ad : Nat → Nat) (σ : Sg) (d : Int32) (hX : IX σ.1) (t : Nat → Int32) (n : Nat) (pr : Int) (hS : TS t n pr σ.1) (hd : d.toInt = 4) : Mt l yX1_readCondition cX1_readCondition 3 (some .boolean) 9 ad σ [.ref (ad 68), .int d] (oI (fun r τ => IX τ.1 ∧ Fr [69] [(66, 1), (68, 2)] σ τ ∧ TS t n pr τ.1 ∧ (r.toInt = 0 ∨ r.toInt = 1) ∧ CoF pr t n 4 (pl σ.1) (pl τ.1) r)) := by
  have hS5 := hS.2.2.2.2
  have hn60 : n ≤ 60 := by have q1 := hX.tl; have q2 := hS.2.1; omega
  refine Mt_intro (by decide +kernel) (by simp [lg_sl, Value.category]) (fun E C X => ?_)
  show WP E ad 0 [some (.ref (ad 68)), some (.int d), none] [] σ
  refine s_aload_n C dX1_readCondition_0 rfl ?_
  refine s_iload_n C dX1_readCondition_1 rfl ?_
  refine s_callVI (st := []) C (f_readAll_4 l ad σ d hX t n pr hS (by omega)) cv_X1_46 y68 rfl rfl rfl ⟨by decide, by decide⟩ (Nat.le_of_ble_eq_true rfl) dX1_readCondition_2 ?_
  intro r1 τ2 h3
  have hXτ2 := h3.1
  have hSτ2 := h3.2.2.1
  have bh3 := h3.2.2.2.1
  have pτ2 : pl τ2.1 ≤ n := hSτ2.2.2.2.2
  have ah3 : AlF pr t n 4 (pl σ.1) (pl τ2.1) r1 := h3.2.2.2.2
  refine s_if_ne (tgt := 10) C dX1_readCondition_5 (by decide) (fun q4 => ?_) (fun q4 => ?_)
  · have q4h3 := ((ah3 (List.replicate 4 true) (by simp) rfl)).1 (by omega)
    refine s_iconst C dX1_readCondition_10 (by decide) (fun z5 tz5 => ?_)
    refine s_istore_n C dX1_readCondition_11 (by decide) (Nat.le_of_ble_eq_true rfl) rfl ?_
    show WP E ad 12 [some (.ref (ad 68)), some (.int d), some (.int z5)] [] τ2
    exact L_freadCondition_4 l ad E σ t n pr d hd C X 100 τ2 z5 (Fr.tr Fr.rf (Fr.mo h3.2.1 (by decide) (by decide))) hXτ2 hSτ2 (by omega) (fun o ho ht => ((ah3 o ho ht).1 (by omega)).1) (by omega) q4h3.2.2 (by omega)
  · refine s_iconst C dX1_readCondition_8 (by decide) (fun z6 tz6 => ?_)
    exact s_zret C (by omega) X dX1_readCondition_9 ⟨hXτ2, (Fr.tr Fr.rf (Fr.mo h3.2.1 (by decide) (by decide))), hSτ2, by omega, (fun o ho ht => ⟨fun q => by omega, fun _ => (ah3 o ho ht).2 (by omega)⟩)⟩
set_option maxRecDepth 100000 in
theorem f_readTest_3 (l : Launch) (ad : Nat → Nat) (σ : Sg) (d : Int32) (hX : IX σ.1) (t : Nat → Int32) (n : Nat) (pr : Int) (hS : TS t n pr σ.1) (hd : d.toInt = 3) : Mt l yX1_readTest cX1_readTest 3 (some .boolean) 10 ad σ [.ref (ad 68), .int d] (oI (fun r τ => IX τ.1 ∧ Fr [69] [(66, 1), (68, 2)] σ τ ∧ TS t n pr τ.1 ∧ (r.toInt = 0 ∨ r.toInt = 1) ∧ TsF pr t n 3 (pl σ.1) (pl τ.1) r)) := by
  have hS5 := hS.2.2.2.2
  refine Mt_intro (by decide +kernel) (by simp [lg_sl, Value.category]) (fun E C X => ?_)
  show WP E ad 0 [some (.ref (ad 68)), some (.int d), none] [] σ
  refine s_aload_n C dX1_readTest_0 rfl ?_
  refine s_getr (k := 0) (j := 66) C y68 fw_X1_19 rfl dX1_readTest_1 ?_
  refine s_callVI (st := []) C (f_peek l ad σ hX t n pr hS) cv_X1_60 y66 rfl rfl rfl ⟨by decide, by decide⟩ (Nat.le_of_ble_eq_true rfl) dX1_readTest_4 ?_
  intro r1 τ2 h3
  obtain ⟨eh3, h3⟩ := h3; replace eh3 := eh3.symm; subst eh3
  refine s_istore_n C dX1_readTest_7 (by decide) (Nat.le_of_ble_eq_true rfl) rfl ?_
  show WP E ad 8 [some (.ref (ad 68)), some (.int d), some (.int r1)] [] σ
  have hpk := h3
  refine s_iload_n C dX1_readTest_8 rfl ?_
  refine s_bipush C dX1_readTest_9 (by decide) (fun z4 tz4 => ?_)
  refine s_icmp_eq (tgt := 25) C dX1_readTest_11 (by decide) (fun q5 => ?_) (fun q5 => ?_)
  · have hkn : pl σ.1 < n := by unfold tA at hpk; split at hpk <;> omega
    have hkc : (t (pl σ.1)).toInt = r1.toInt := by unfold tA at hpk; rw [if_pos hkn] at hpk; omega
    refine s_iload_n C dX1_readTest_25 rfl ?_
    refine s_iconst C dX1_readTest_26 (by decide) (fun z6 tz6 => ?_)
    refine s_icmp_lt (tgt := 32) C dX1_readTest_27 (by decide) (fun q7 => ?_) (fun q7 => ?_)
    · refine s_aload_n C dX1_readTest_32 rfl ?_
      refine s_getr (k := 0) (j := 66) C y68 fw_X1_19 rfl dX1_readTest_33 ?_
      refine s_iload_n C dX1_readTest_36 rfl ?_
      refine s_callVI (st := []) C (f_accept l ad σ r1 hX t n pr hS ) cv_X1_50 y66 rfl rfl rfl ⟨by decide, by decide⟩ (Nat.le_of_ble_eq_true rfl) dX1_readTest_37 ?_
      intro r8 τ9 h10
      have hXτ9 := h10.1
      have hSτ9 := h10.2.2.1
      have bh10 := h10.2.2.2.1
      have pτ9 : pl τ9.1 ≤ n := hSτ9.2.2.2.2
      have ah10 : AcF t n (pl σ.1) (pl τ9.1) r1 r8 := h10.2.2.2.2
      obtain ⟨x1h10, x2h10, x3h10⟩ := ah10.1 (by rcases bh10 with q | q; (have q2 := ah10.2 q; omega); exact q)
      refine s_pop C dX1_readTest_40 rfl ?_
      refine s_iload_n C dX1_readTest_41 rfl ?_
      refine s_bipush C dX1_readTest_42 (by decide) (fun z11 tz11 => ?_)
      refine s_icmp_ne (tgt := 75) C dX1_readTest_44 (by decide) (fun q12 => ?_) (fun q12 => ?_)
      · refine s_aload_n C dX1_readTest_75 rfl ?_
        refine s_iload_n C dX1_readTest_76 rfl ?_
        refine s_iconst C dX1_readTest_77 (by decide) (fun z13 tz13 => ?_)
        refine s_iadd C dX1_readTest_78 (by omega) (fun z14 tz14 => ?_)
        refine s_callVI (st := []) C (f_readTest_4 l ad τ9 z14 hXτ9 t n pr hSτ9 (by omega)) cv_X1_57 y68 rfl rfl rfl ⟨by decide, by decide⟩ (Nat.le_of_ble_eq_true rfl) dX1_readTest_79 ?_
        intro r15 τ16 h17
        have hXτ16 := h17.1
        have hSτ16 := h17.2.2.1
        have bh17 := h17.2.2.2.1
        have pτ16 : pl τ16.1 ≤ n := hSτ16.2.2.2.2
        have ah17 : TsF pr t n 4 ((pl σ.1) + 1) (pl τ16.1) r15 := by have q := h17.2.2.2.2; rw [x3h10] at q; exact q
        refine s_if_ne (tgt := 87) C dX1_readTest_82 (by decide) (fun q18 => ?_) (fun q18 => ?_)
        · have q4h17 := (ah17 (false :: List.replicate 3 false) (by simp)).1 (by omega)
          refine s_aload_n C dX1_readTest_87 rfl ?_
          refine s_bipush C dX1_readTest_88 (by decide) (fun z19 tz19 => ?_)
          refine s_callVV (st := []) C (c_X1_add l ad τ16 z19 hXτ16 (pv_op (by omega))) cv_X1_53 y68 rfl rfl rfl ⟨by decide, by decide⟩ (Nat.le_of_ble_eq_true rfl) dX1_readTest_90 ?_
          intro τ21 h22
          have hXτ21 := h22.1
          have eh22 : τ21.1 66 1 = τ16.1 66 1 := h22.2.1.f 66 1 (by decide) (by decide)
          have kτ21 : pl τ21.1 = (pl τ16.1) := congrArg (fun z : Int32 => z.toInt.toNat) eh22
          have hSτ21 : TS t n pr τ21.1 := hSτ16.go h22.2.1 (by decide) (by decide) (by rw [eh22]; have := hSτ16.2.2.2.1; omega) (by rw [eh22]; have := hSτ16.2.2.2; omega)
          have pτ21 : pl τ21.1 ≤ n := hSτ21.2.2.2.2
          skip
          refine s_iconst C dX1_readTest_93 (by decide) (fun z23 tz23 => ?_)
          exact s_zret C (by omega) X dX1_readTest_94 ⟨hXτ21, (Fr.tr (Fr.tr (Fr.tr Fr.rf (Fr.mo h10.2.1 (by decide) (by decide))) (Fr.mo h17.2.1 (by decide) (by decide))) (Fr.mo h22.2.1 (by decide) (by decide))), hSτ21, by omega, (by rw [kτ21]; exact (fun o ho => by have q5 := (ah17 (false :: o) (by rw [List.length_cons]; omega)).1 (by omega); exact ⟨fun _ => ⟨by rw [A_open x1h10 (by omega), if_neg (by omega), decide_eq_false (show ¬ (t (pl σ.1)).toInt = 40 by omega)]; rw [q5.1, A_not], by omega⟩, fun q => by omega⟩))⟩
        · skip
          refine s_iconst C dX1_readTest_85 (by decide) (fun z24 tz24 => ?_)
          exact s_zret C (by omega) X dX1_readTest_86 ⟨hXτ16, (Fr.tr (Fr.tr Fr.rf (Fr.mo h10.2.1 (by decide) (by decide))) (Fr.mo h17.2.1 (by decide) (by decide))), hSτ16, by omega, (fun o ho => ⟨fun q => by omega, fun _ => by rw [A_open x1h10 (by omega), if_neg (by omega), decide_eq_false (show ¬ (t (pl σ.1)).toInt = 40 by omega)]; exact (ah17 (false :: o) (by rw [List.length_cons]; omega)).2 (by omega)⟩)⟩
      · refine s_aload_n C dX1_readTest_47 rfl ?_
        refine s_iload_n C dX1_readTest_48 rfl ?_
        refine s_iconst C dX1_readTest_49 (by decide) (fun z25 tz25 => ?_)
        refine s_iadd C dX1_readTest_50 (by omega) (fun z26 tz26 => ?_)
        refine s_callVI (st := []) C (f_readCondition_4 l ad τ9 z26 hXτ9 t n pr hSτ9 (by omega)) cv_X1_68 y68 rfl rfl rfl ⟨by decide, by decide⟩ (Nat.le_of_ble_eq_true rfl) dX1_readTest_51 ?_
        intro r27 τ28 h29
        have hXτ28 := h29.1
        have hSτ28 := h29.2.2.1
        have bh29 := h29.2.2.2.1
        have pτ28 : pl τ28.1 ≤ n := hSτ28.2.2.2.2
        have ah29 : CoF pr t n 4 ((pl σ.1) + 1) (pl τ28.1) r27 := by have q := h29.2.2.2.2; rw [x3h10] at q; exact q
        refine s_if_eq (tgt := 73) C dX1_readTest_54 (by decide) (fun q30 => ?_) (fun q30 => ?_)
        · refine s_iconst C dX1_readTest_73 (by decide) (fun z31 tz31 => ?_)
          exact s_zret C (by omega) X dX1_readTest_74 ⟨hXτ28, (Fr.tr (Fr.tr Fr.rf (Fr.mo h10.2.1 (by decide) (by decide))) (Fr.mo h29.2.1 (by decide) (by decide))), hSτ28, by omega, (fun o ho => ⟨fun q => by omega, fun _ => by rw [A_open x1h10 (by omega), if_neg (by omega), decide_eq_true (show (t (pl σ.1)).toInt = 40 by omega)]; exact (ah29 (true :: o) (by rw [List.length_cons]; omega) rfl).2 (by omega)⟩)⟩
        · have q4h29 := (ah29 (true :: List.replicate 3 false) (by simp) rfl).1 (by omega)
          refine s_aload_n C dX1_readTest_57 rfl ?_
          refine s_getr (k := 0) (j := 66) C y68 fw_X1_19 rfl dX1_readTest_58 ?_
          refine s_bipush C dX1_readTest_61 (by decide) (fun z32 tz32 => ?_)
          refine s_callVI (st := []) C (f_accept l ad τ28 z32 hXτ28 t n pr hSτ28 ) cv_X1_50 y66 rfl rfl rfl ⟨by decide, by decide⟩ (Nat.le_of_ble_eq_true rfl) dX1_readTest_63 ?_
          intro r33 τ34 h35
          have hXτ34 := h35.1
          have hSτ34 := h35.2.2.1
          have bh35 := h35.2.2.2.1
          have pτ34 : pl τ34.1 ≤ n := hSτ34.2.2.2.2
          have ah35 : AcF t n (pl τ28.1) (pl τ34.1) z32 r33 := h35.2.2.2.2
          refine s_if_eq (tgt := 73) C dX1_readTest_66 (by decide) (fun q36 => ?_) (fun q36 => ?_)
          · obtain ⟨y1h35, y2h35⟩ := ah35.2 (by omega)
            refine s_iconst C dX1_readTest_73 (by decide) (fun z37 tz37 => ?_)
            exact s_zret C (by omega) X dX1_readTest_74 ⟨hXτ34, (Fr.tr (Fr.tr (Fr.tr Fr.rf (Fr.mo h10.2.1 (by decide) (by decide))) (Fr.mo h29.2.1 (by decide) (by decide))) (Fr.mo h35.2.1 (by decide) (by decide))), hSτ34, by omega, (by rw [y2h35]; exact (fun o ho => by have q5 := (ah29 (true :: o) (by rw [List.length_cons]; omega) rfl).1 (by omega); exact ⟨fun q => by omega, fun _ => by rw [A_open x1h10 (by omega), if_neg (by omega), decide_eq_true (show (t (pl σ.1)).toInt = 40 by omega)]; rw [q5.1, A_stop3 (by omega) q5.2.2 (y1h35.elim Or.inl (fun z => Or.inr (Or.inl (by omega)))) (Or.inr (by simp))]⟩))⟩
          · obtain ⟨x1h35, x2h35, x3h35⟩ := ah35.1 (by omega)
            refine s_iconst C dX1_readTest_69 (by decide) (fun z38 tz38 => ?_)
            refine s_goto (tgt := 74) C dX1_readTest_70 (by decide) ?_
            exact s_zret C (by omega) X dX1_readTest_74 ⟨hXτ34, (Fr.tr (Fr.tr (Fr.tr Fr.rf (Fr.mo h10.2.1 (by decide) (by decide))) (Fr.mo h29.2.1 (by decide) (by decide))) (Fr.mo h35.2.1 (by decide) (by decide))), hSτ34, by omega, (by rw [x3h35]; exact (fun o ho => by have q5 := (ah29 (true :: o) (by rw [List.length_cons]; omega) rfl).1 (by omega); exact ⟨fun _ => ⟨by rw [A_open x1h10 (by omega), if_neg (by omega), decide_eq_true (show (t (pl σ.1)).toInt = 40 by omega)]; rw [q5.1, A_close x1h35 (by omega)], by omega⟩, fun q => by omega⟩))⟩
    · omega
  · refine s_iload_n C dX1_readTest_14 rfl ?_
    refine s_bipush C dX1_readTest_15 (by decide) (fun z39 tz39 => ?_)
    refine s_icmp_eq (tgt := 25) C dX1_readTest_17 (by decide) (fun q40 => ?_) (fun q40 => ?_)
    · have hkn : pl σ.1 < n := by unfold tA at hpk; split at hpk <;> omega
      have hkc : (t (pl σ.1)).toInt = r1.toInt := by unfold tA at hpk; rw [if_pos hkn] at hpk; omega
      refine s_iload_n C dX1_readTest_25 rfl ?_
      refine s_iconst C dX1_readTest_26 (by decide) (fun z41 tz41 => ?_)
      refine s_icmp_lt (tgt := 32) C dX1_readTest_27 (by decide) (fun q42 => ?_) (fun q42 => ?_)
      · refine s_aload_n C dX1_readTest_32 rfl ?_
        refine s_getr (k := 0) (j := 66) C y68 fw_X1_19 rfl dX1_readTest_33 ?_
        refine s_iload_n C dX1_readTest_36 rfl ?_
        refine s_callVI (st := []) C (f_accept l ad σ r1 hX t n pr hS ) cv_X1_50 y66 rfl rfl rfl ⟨by decide, by decide⟩ (Nat.le_of_ble_eq_true rfl) dX1_readTest_37 ?_
        intro r43 τ44 h45
        have hXτ44 := h45.1
        have hSτ44 := h45.2.2.1
        have bh45 := h45.2.2.2.1
        have pτ44 : pl τ44.1 ≤ n := hSτ44.2.2.2.2
        have ah45 : AcF t n (pl σ.1) (pl τ44.1) r1 r43 := h45.2.2.2.2
        obtain ⟨x1h45, x2h45, x3h45⟩ := ah45.1 (by rcases bh45 with q | q; (have q2 := ah45.2 q; omega); exact q)
        refine s_pop C dX1_readTest_40 rfl ?_
        refine s_iload_n C dX1_readTest_41 rfl ?_
        refine s_bipush C dX1_readTest_42 (by decide) (fun z46 tz46 => ?_)
        refine s_icmp_ne (tgt := 75) C dX1_readTest_44 (by decide) (fun q47 => ?_) (fun q47 => ?_)
        · refine s_aload_n C dX1_readTest_75 rfl ?_
          refine s_iload_n C dX1_readTest_76 rfl ?_
          refine s_iconst C dX1_readTest_77 (by decide) (fun z48 tz48 => ?_)
          refine s_iadd C dX1_readTest_78 (by omega) (fun z49 tz49 => ?_)
          refine s_callVI (st := []) C (f_readTest_4 l ad τ44 z49 hXτ44 t n pr hSτ44 (by omega)) cv_X1_57 y68 rfl rfl rfl ⟨by decide, by decide⟩ (Nat.le_of_ble_eq_true rfl) dX1_readTest_79 ?_
          intro r50 τ51 h52
          have hXτ51 := h52.1
          have hSτ51 := h52.2.2.1
          have bh52 := h52.2.2.2.1
          have pτ51 : pl τ51.1 ≤ n := hSτ51.2.2.2.2
          have ah52 : TsF pr t n 4 ((pl σ.1) + 1) (pl τ51.1) r50 := by have q := h52.2.2.2.2; rw [x3h45] at q; exact q
          refine s_if_ne (tgt := 87) C dX1_readTest_82 (by decide) (fun q53 => ?_) (fun q53 => ?_)
          · have q4h52 := (ah52 (false :: List.replicate 3 false) (by simp)).1 (by omega)
            refine s_aload_n C dX1_readTest_87 rfl ?_
            refine s_bipush C dX1_readTest_88 (by decide) (fun z54 tz54 => ?_)
            refine s_callVV (st := []) C (c_X1_add l ad τ51 z54 hXτ51 (pv_op (by omega))) cv_X1_53 y68 rfl rfl rfl ⟨by decide, by decide⟩ (Nat.le_of_ble_eq_true rfl) dX1_readTest_90 ?_
            intro τ56 h57
            have hXτ56 := h57.1
            have eh57 : τ56.1 66 1 = τ51.1 66 1 := h57.2.1.f 66 1 (by decide) (by decide)
            have kτ56 : pl τ56.1 = (pl τ51.1) := congrArg (fun z : Int32 => z.toInt.toNat) eh57
            have hSτ56 : TS t n pr τ56.1 := hSτ51.go h57.2.1 (by decide) (by decide) (by rw [eh57]; have := hSτ51.2.2.2.1; omega) (by rw [eh57]; have := hSτ51.2.2.2; omega)
            have pτ56 : pl τ56.1 ≤ n := hSτ56.2.2.2.2
            skip
            refine s_iconst C dX1_readTest_93 (by decide) (fun z58 tz58 => ?_)
            exact s_zret C (by omega) X dX1_readTest_94 ⟨hXτ56, (Fr.tr (Fr.tr (Fr.tr Fr.rf (Fr.mo h45.2.1 (by decide) (by decide))) (Fr.mo h52.2.1 (by decide) (by decide))) (Fr.mo h57.2.1 (by decide) (by decide))), hSτ56, by omega, (by rw [kτ56]; exact (fun o ho => by have q5 := (ah52 (false :: o) (by rw [List.length_cons]; omega)).1 (by omega); exact ⟨fun _ => ⟨by rw [A_open x1h45 (by omega), if_neg (by omega), decide_eq_false (show ¬ (t (pl σ.1)).toInt = 40 by omega)]; rw [q5.1, A_not], by omega⟩, fun q => by omega⟩))⟩
          · skip
            refine s_iconst C dX1_readTest_85 (by decide) (fun z59 tz59 => ?_)
            exact s_zret C (by omega) X dX1_readTest_86 ⟨hXτ51, (Fr.tr (Fr.tr Fr.rf (Fr.mo h45.2.1 (by decide) (by decide))) (Fr.mo h52.2.1 (by decide) (by decide))), hSτ51, by omega, (fun o ho => ⟨fun q => by omega, fun _ => by rw [A_open x1h45 (by omega), if_neg (by omega), decide_eq_false (show ¬ (t (pl σ.1)).toInt = 40 by omega)]; exact (ah52 (false :: o) (by rw [List.length_cons]; omega)).2 (by omega)⟩)⟩
        · refine s_aload_n C dX1_readTest_47 rfl ?_
          refine s_iload_n C dX1_readTest_48 rfl ?_
          refine s_iconst C dX1_readTest_49 (by decide) (fun z60 tz60 => ?_)
          refine s_iadd C dX1_readTest_50 (by omega) (fun z61 tz61 => ?_)
          refine s_callVI (st := []) C (f_readCondition_4 l ad τ44 z61 hXτ44 t n pr hSτ44 (by omega)) cv_X1_68 y68 rfl rfl rfl ⟨by decide, by decide⟩ (Nat.le_of_ble_eq_true rfl) dX1_readTest_51 ?_
          intro r62 τ63 h64
          have hXτ63 := h64.1
          have hSτ63 := h64.2.2.1
          have bh64 := h64.2.2.2.1
          have pτ63 : pl τ63.1 ≤ n := hSτ63.2.2.2.2
          have ah64 : CoF pr t n 4 ((pl σ.1) + 1) (pl τ63.1) r62 := by have q := h64.2.2.2.2; rw [x3h45] at q; exact q
          refine s_if_eq (tgt := 73) C dX1_readTest_54 (by decide) (fun q65 => ?_) (fun q65 => ?_)
          · refine s_iconst C dX1_readTest_73 (by decide) (fun z66 tz66 => ?_)
            exact s_zret C (by omega) X dX1_readTest_74 ⟨hXτ63, (Fr.tr (Fr.tr Fr.rf (Fr.mo h45.2.1 (by decide) (by decide))) (Fr.mo h64.2.1 (by decide) (by decide))), hSτ63, by omega, (fun o ho => ⟨fun q => by omega, fun _ => by rw [A_open x1h45 (by omega), if_neg (by omega), decide_eq_true (show (t (pl σ.1)).toInt = 40 by omega)]; exact (ah64 (true :: o) (by rw [List.length_cons]; omega) rfl).2 (by omega)⟩)⟩
          · have q4h64 := (ah64 (true :: List.replicate 3 false) (by simp) rfl).1 (by omega)
            refine s_aload_n C dX1_readTest_57 rfl ?_
            refine s_getr (k := 0) (j := 66) C y68 fw_X1_19 rfl dX1_readTest_58 ?_
            refine s_bipush C dX1_readTest_61 (by decide) (fun z67 tz67 => ?_)
            refine s_callVI (st := []) C (f_accept l ad τ63 z67 hXτ63 t n pr hSτ63 ) cv_X1_50 y66 rfl rfl rfl ⟨by decide, by decide⟩ (Nat.le_of_ble_eq_true rfl) dX1_readTest_63 ?_
            intro r68 τ69 h70
            have hXτ69 := h70.1
            have hSτ69 := h70.2.2.1
            have bh70 := h70.2.2.2.1
            have pτ69 : pl τ69.1 ≤ n := hSτ69.2.2.2.2
            have ah70 : AcF t n (pl τ63.1) (pl τ69.1) z67 r68 := h70.2.2.2.2
            refine s_if_eq (tgt := 73) C dX1_readTest_66 (by decide) (fun q71 => ?_) (fun q71 => ?_)
            · obtain ⟨y1h70, y2h70⟩ := ah70.2 (by omega)
              refine s_iconst C dX1_readTest_73 (by decide) (fun z72 tz72 => ?_)
              exact s_zret C (by omega) X dX1_readTest_74 ⟨hXτ69, (Fr.tr (Fr.tr (Fr.tr Fr.rf (Fr.mo h45.2.1 (by decide) (by decide))) (Fr.mo h64.2.1 (by decide) (by decide))) (Fr.mo h70.2.1 (by decide) (by decide))), hSτ69, by omega, (by rw [y2h70]; exact (fun o ho => by have q5 := (ah64 (true :: o) (by rw [List.length_cons]; omega) rfl).1 (by omega); exact ⟨fun q => by omega, fun _ => by rw [A_open x1h45 (by omega), if_neg (by omega), decide_eq_true (show (t (pl σ.1)).toInt = 40 by omega)]; rw [q5.1, A_stop3 (by omega) q5.2.2 (y1h70.elim Or.inl (fun z => Or.inr (Or.inl (by omega)))) (Or.inr (by simp))]⟩))⟩
            · obtain ⟨x1h70, x2h70, x3h70⟩ := ah70.1 (by omega)
              refine s_iconst C dX1_readTest_69 (by decide) (fun z73 tz73 => ?_)
              refine s_goto (tgt := 74) C dX1_readTest_70 (by decide) ?_
              exact s_zret C (by omega) X dX1_readTest_74 ⟨hXτ69, (Fr.tr (Fr.tr (Fr.tr Fr.rf (Fr.mo h45.2.1 (by decide) (by decide))) (Fr.mo h64.2.1 (by decide) (by decide))) (Fr.mo h70.2.1 (by decide) (by decide))), hSτ69, by omega, (by rw [x3h70]; exact (fun o ho => by have q5 := (ah64 (true :: o) (by rw [List.length_cons]; omega) rfl).1 (by omega); exact ⟨fun _ => ⟨by rw [A_open x1h45 (by omega), if_neg (by omega), decide_eq_true (show (t (pl σ.1)).toInt = 40 by omega)]; rw [q5.1, A_close x1h70 (by omega)], by omega⟩, fun q => by omega⟩))⟩
      · omega
    · skip
      have hc : n ≤ pl σ.1 ∨ ¬ ((t (pl σ.1)).toInt = 33 ∨ (t (pl σ.1)).toInt = 40) := by unfold tA at hpk; split at hpk <;> omega
      refine s_aload_n C dX1_readTest_20 rfl ?_
      refine s_callVI (st := []) C (f_readComparison l ad σ  hX t n pr hS ) cv_X1_64 y68 rfl rfl rfl ⟨by decide, by decide⟩ (Nat.le_of_ble_eq_true rfl) dX1_readTest_21 ?_
      intro r74 τ75 h76
      have hXτ75 := h76.1
      have hSτ75 := h76.2.2.1
      have bh76 := h76.2.2.2.1
      have pτ75 : pl τ75.1 ≤ n := hSτ75.2.2.2.2
      have ah76 : CmF pr t n (pl σ.1) (pl τ75.1) r74 := h76.2.2.2.2
      exact s_zret C (by omega) X dX1_readTest_24 ⟨hXτ75, (Fr.tr Fr.rf (Fr.mo h76.2.1 (by decide) (by decide))), hSτ75, by omega, (fun o ho => ah76 hc o)⟩
set_option maxRecDepth 100000 in
theorem L_freadAll_3 (l : Launch) (ad : Nat → Nat) (E : Ev) (σ : Sg) (t : Nat → Int32) (n : Nat) (pr : Int) (d : Int32) (hd : d.toInt = 3) (C : Cx E l (rmk 11) 3 cX1_readAll RX1) (X : Rx E ad (some .boolean) (oI (fun r τ => IX τ.1 ∧ Fr [69] [(66, 1), (68, 2)] σ τ ∧ TS t n pr τ.1 ∧ (r.toInt = 0 ∨ r.toInt = 1) ∧ AlF pr t n 3 (pl σ.1) (pl τ.1) r)))  : ∀ (mm : Nat) (τ : Sg) (z : Int32), (Fr [69] [(66, 1), (68, 2)] σ τ) → (IX τ.1) → (TS t n pr τ.1) → (0 ≤ z.toInt ∧ z.toInt ≤ pl τ.1) → (∀ o : List Bool, o.length = 3 → te o = o → Au pr t n 0 o (pl σ.1) = Au pr t n 3 o (pl τ.1)) → (pl σ.1 < pl τ.1) → (60 - z.toInt).toNat < mm → WP E ad 12 [some (.ref (ad 68)), some (.int d), some (.int z)] [] τ := by
  intro mm
  induction mm with
  | zero => intro τ z kF hXτ hSτ h0 hA hgt hm9; exact absurd hm9 (Nat.not_lt_zero _)
  | succ mm ih =>
    intro τ z kF hXτ hSτ h0 hA hgt hm9
    have hS5 : pl τ.1 ≤ n := hSτ.2.2.2.2
    have hn60 : n ≤ 60 := by have q1 := hXτ.tl; have q2 := hSτ.2.1; omega
    refine s_iload_n C dX1_readAll_12 rfl ?_
    refine s_bipush C dX1_readAll_13 (by decide) (fun z1 tz1 => ?_)
    refine s_icmp_ge (tgt := 52) C dX1_readAll_15 (by decide) (fun q2 => ?_) (fun q2 => ?_)
    · skip
      refine s_iconst C dX1_readAll_52 (by decide) (fun z3 tz3 => ?_)
      exact s_zret C (by omega) X dX1_readAll_53 ⟨hXτ, (Fr.tr Fr.rf (Fr.mo kF (by decide) (by decide))), hSτ, by omega, (fun o ho ht => ⟨fun _ => ⟨hA o ho ht, hgt, by omega⟩, fun q => by omega⟩)⟩
    · refine s_aload_n C dX1_readAll_18 rfl ?_
      refine s_getr (k := 0) (j := 66) C y68 fw_X1_19 rfl dX1_readAll_19 ?_
      refine s_bipush C dX1_readAll_22 (by decide) (fun z4 tz4 => ?_)
      refine s_callVI (st := []) C (f_accept l ad τ z4 hXτ t n pr hSτ ) cv_X1_50 y66 rfl rfl rfl ⟨by decide, by decide⟩ (Nat.le_of_ble_eq_true rfl) dX1_readAll_24 ?_
      intro r5 τ6 h7
      have hXτ6 := h7.1
      have hSτ6 := h7.2.2.1
      have bh7 := h7.2.2.2.1
      have pτ6 : pl τ6.1 ≤ n := hSτ6.2.2.2.2
      have ah7 : AcF t n (pl τ.1) (pl τ6.1) z4 r5 := h7.2.2.2.2
      refine s_if_eq (tgt := 52) C dX1_readAll_27 (by decide) (fun q8 => ?_) (fun q8 => ?_)
      · obtain ⟨y1h7, y2h7⟩ := ah7.2 (by omega)
        skip
        refine s_iconst C dX1_readAll_52 (by decide) (fun z9 tz9 => ?_)
        exact s_zret C (by omega) X dX1_readAll_53 ⟨hXτ6, (Fr.tr (Fr.tr Fr.rf (Fr.mo kF (by decide) (by decide))) (Fr.mo h7.2.1 (by decide) (by decide))), hSτ6, by omega, (by rw [y2h7]; exact (fun o ho ht => ⟨fun _ => ⟨hA o ho ht, hgt, by omega⟩, fun q => by omega⟩))⟩
      · obtain ⟨x1h7, x2h7, x3h7⟩ := ah7.1 (by omega)
        refine s_aload_n C dX1_readAll_30 rfl ?_
        refine s_iload_n C dX1_readAll_31 rfl ?_
        refine s_callVI (st := []) C (f_readTest_3 l ad τ6 d hXτ6 t n pr hSτ6 (by omega)) cv_X1_57 y68 rfl rfl rfl ⟨by decide, by decide⟩ (Nat.le_of_ble_eq_true rfl) dX1_readAll_32 ?_
        intro r10 τ11 h12
        have hXτ11 := h12.1
        have hSτ11 := h12.2.2.1
        have bh12 := h12.2.2.2.1
        have pτ11 : pl τ11.1 ≤ n := hSτ11.2.2.2.2
        have ah12 : TsF pr t n 3 ((pl τ.1) + 1) (pl τ11.1) r10 := by have q := h12.2.2.2.2; rw [x3h7] at q; exact q
        refine s_if_ne (tgt := 40) C dX1_readAll_35 (by decide) (fun q13 => ?_) (fun q13 => ?_)
        · have q4h12 := ((ah12 (List.replicate 3 true) (by simp))).1 (by omega)
          refine s_aload_n C dX1_readAll_40 rfl ?_
          refine s_bipush C dX1_readAll_41 (by decide) (fun z14 tz14 => ?_)
          refine s_callVV (st := []) C (c_X1_add l ad τ11 z14 hXτ11 (pv_op (by omega))) cv_X1_53 y68 rfl rfl rfl ⟨by decide, by decide⟩ (Nat.le_of_ble_eq_true rfl) dX1_readAll_43 ?_
          intro τ16 h17
          have hXτ16 := h17.1
          have eh17 : τ16.1 66 1 = τ11.1 66 1 := h17.2.1.f 66 1 (by decide) (by decide)
          have kτ16 : pl τ16.1 = (pl τ11.1) := congrArg (fun z : Int32 => z.toInt.toNat) eh17
          have hSτ16 : TS t n pr τ16.1 := hSτ11.go h17.2.1 (by decide) (by decide) (by rw [eh17]; have := hSτ11.2.2.2.1; omega) (by rw [eh17]; have := hSτ11.2.2.2; omega)
          have pτ16 : pl τ16.1 ≤ n := hSτ16.2.2.2.2
          refine s_iinc C dX1_readAll_46 rfl (by decide) rfl (by decide) (by omega) (fun z18 tz18 => ?_)
          show WP E ad 49 [some (.ref (ad 68)), some (.int d), some (.int z18)] [] τ16
          refine s_goto (tgt := 12) C dX1_readAll_49 (by decide) ?_
          exact ih τ16 z18 (Fr.tr (Fr.tr (Fr.tr (Fr.tr Fr.rf (Fr.mo kF (by decide) (by decide))) (Fr.mo h7.2.1 (by decide) (by decide))) (Fr.mo h12.2.1 (by decide) (by decide))) (Fr.mo h17.2.1 (by decide) (by decide))) hXτ16 hSτ16 (by omega) (fun o ho ht => by rw [hA o ho ht, A_and x1h7 (by omega) ht, ((ah12 o ho).1 (by omega)).1, kτ16]) (by omega) (by omega)
        · skip
          refine s_iconst C dX1_readAll_38 (by decide) (fun z19 tz19 => ?_)
          exact s_zret C (by omega) X dX1_readAll_39 ⟨hXτ11, (Fr.tr (Fr.tr (Fr.tr Fr.rf (Fr.mo kF (by decide) (by decide))) (Fr.mo h7.2.1 (by decide) (by decide))) (Fr.mo h12.2.1 (by decide) (by decide))), hSτ11, by omega, (fun o ho ht => ⟨fun q => by omega, fun _ => by rw [hA o ho ht, A_and x1h7 (by omega) ht]; exact (ah12 o ho).2 (by omega)⟩)⟩
set_option maxRecDepth 100000 in
theorem f_readAll_3 (l : Launch) (ad : Nat → Nat) (σ : Sg) (d : Int32) (hX : IX σ.1) (t : Nat → Int32) (n : Nat) (pr : Int) (hS : TS t n pr σ.1) (hd : d.toInt = 3) : Mt l yX1_readAll cX1_readAll 3 (some .boolean) 11 ad σ [.ref (ad 68), .int d] (oI (fun r τ => IX τ.1 ∧ Fr [69] [(66, 1), (68, 2)] σ τ ∧ TS t n pr τ.1 ∧ (r.toInt = 0 ∨ r.toInt = 1) ∧ AlF pr t n 3 (pl σ.1) (pl τ.1) r)) := by
  have hS5 := hS.2.2.2.2
  have hn60 : n ≤ 60 := by have q1 := hX.tl; have q2 := hS.2.1; omega
  refine Mt_intro (by decide +kernel) (by simp [lg_sl, Value.category]) (fun E C X => ?_)
  show WP E ad 0 [some (.ref (ad 68)), some (.int d), none] [] σ
  refine s_aload_n C dX1_readAll_0 rfl ?_
  refine s_iload_n C dX1_readAll_1 rfl ?_
  refine s_callVI (st := []) C (f_readTest_3 l ad σ d hX t n pr hS (by omega)) cv_X1_57 y68 rfl rfl rfl ⟨by decide, by decide⟩ (Nat.le_of_ble_eq_true rfl) dX1_readAll_2 ?_
  intro r1 τ2 h3
  have hXτ2 := h3.1
  have hSτ2 := h3.2.2.1
  have bh3 := h3.2.2.2.1
  have pτ2 : pl τ2.1 ≤ n := hSτ2.2.2.2.2
  have ah3 : TsF pr t n 3 (pl σ.1) (pl τ2.1) r1 := h3.2.2.2.2
  refine s_if_ne (tgt := 10) C dX1_readAll_5 (by decide) (fun q4 => ?_) (fun q4 => ?_)
  · have q4h3 := ((ah3 (List.replicate 3 true) (by simp))).1 (by omega)
    refine s_iconst C dX1_readAll_10 (by decide) (fun z5 tz5 => ?_)
    refine s_istore_n C dX1_readAll_11 (by decide) (Nat.le_of_ble_eq_true rfl) rfl ?_
    show WP E ad 12 [some (.ref (ad 68)), some (.int d), some (.int z5)] [] τ2
    exact L_freadAll_3 l ad E σ t n pr d hd C X 100 τ2 z5 (Fr.tr Fr.rf (Fr.mo h3.2.1 (by decide) (by decide))) hXτ2 hSτ2 (by omega) (fun o ho ht => ((ah3 o ho).1 (by omega)).1) (by omega) (by omega)
  · refine s_iconst C dX1_readAll_8 (by decide) (fun z6 tz6 => ?_)
    exact s_zret C (by omega) X dX1_readAll_9 ⟨hXτ2, (Fr.tr Fr.rf (Fr.mo h3.2.1 (by decide) (by decide))), hSτ2, by omega, (fun o ho ht => ⟨fun q => by omega, fun _ => (ah3 o ho).2 (by omega)⟩)⟩
set_option maxRecDepth 100000 in
theorem L_freadCondition_3 (l : Launch) (ad : Nat → Nat) (E : Ev) (σ : Sg) (t : Nat → Int32) (n : Nat) (pr : Int) (d : Int32) (hd : d.toInt = 3) (C : Cx E l (rmk 12) 3 cX1_readCondition RX1) (X : Rx E ad (some .boolean) (oI (fun r τ => IX τ.1 ∧ Fr [69] [(66, 1), (68, 2)] σ τ ∧ TS t n pr τ.1 ∧ (r.toInt = 0 ∨ r.toInt = 1) ∧ CoF pr t n 3 (pl σ.1) (pl τ.1) r)))  : ∀ (mm : Nat) (τ : Sg) (z : Int32), (Fr [69] [(66, 1), (68, 2)] σ τ) → (IX τ.1) → (TS t n pr τ.1) → (0 ≤ z.toInt ∧ z.toInt ≤ pl τ.1) → (∀ o : List Bool, o.length = 3 → te o = o → Au pr t n 0 o (pl σ.1) = Au pr t n 3 o (pl τ.1)) → (pl σ.1 < pl τ.1) → ((n ≤ pl τ.1 ∨ ¬ (t (pl τ.1)).toInt = 38)) → (60 - z.toInt).toNat < mm → WP E ad 12 [some (.ref (ad 68)), some (.int d), some (.int z)] [] τ := by
  intro mm
  induction mm with
  | zero => intro τ z kF hXτ hSτ h0 hA hgt hst hm9; exact absurd hm9 (Nat.not_lt_zero _)
  | succ mm ih =>
    intro τ z kF hXτ hSτ h0 hA hgt hst hm9
    have hS5 : pl τ.1 ≤ n := hSτ.2.2.2.2
    have hn60 : n ≤ 60 := by have q1 := hXτ.tl; have q2 := hSτ.2.1; omega
    refine s_iload_n C dX1_readCondition_12 rfl ?_
    refine s_bipush C dX1_readCondition_13 (by decide) (fun z1 tz1 => ?_)
    refine s_icmp_ge (tgt := 52) C dX1_readCondition_15 (by decide) (fun q2 => ?_) (fun q2 => ?_)
    · skip
      refine s_iconst C dX1_readCondition_52 (by decide) (fun z3 tz3 => ?_)
      exact s_zret C (by omega) X dX1_readCondition_53 ⟨hXτ, (Fr.tr Fr.rf (Fr.mo kF (by decide) (by decide))), hSτ, by omega, (fun o ho ht => ⟨fun _ => ⟨hA o ho ht, hgt, by omega⟩, fun q => by omega⟩)⟩
    · refine s_aload_n C dX1_readCondition_18 rfl ?_
      refine s_getr (k := 0) (j := 66) C y68 fw_X1_19 rfl dX1_readCondition_19 ?_
      refine s_bipush C dX1_readCondition_22 (by decide) (fun z4 tz4 => ?_)
      refine s_callVI (st := []) C (f_accept l ad τ z4 hXτ t n pr hSτ ) cv_X1_50 y66 rfl rfl rfl ⟨by decide, by decide⟩ (Nat.le_of_ble_eq_true rfl) dX1_readCondition_24 ?_
      intro r5 τ6 h7
      have hXτ6 := h7.1
      have hSτ6 := h7.2.2.1
      have bh7 := h7.2.2.2.1
      have pτ6 : pl τ6.1 ≤ n := hSτ6.2.2.2.2
      have ah7 : AcF t n (pl τ.1) (pl τ6.1) z4 r5 := h7.2.2.2.2
      refine s_if_eq (tgt := 52) C dX1_readCondition_27 (by decide) (fun q8 => ?_) (fun q8 => ?_)
      · obtain ⟨y1h7, y2h7⟩ := ah7.2 (by omega)
        skip
        refine s_iconst C dX1_readCondition_52 (by decide) (fun z9 tz9 => ?_)
        exact s_zret C (by omega) X dX1_readCondition_53 ⟨hXτ6, (Fr.tr (Fr.tr Fr.rf (Fr.mo kF (by decide) (by decide))) (Fr.mo h7.2.1 (by decide) (by decide))), hSτ6, by omega, (by rw [y2h7]; exact (fun o ho ht => ⟨fun _ => ⟨hA o ho ht, hgt, by omega⟩, fun q => by omega⟩))⟩
      · obtain ⟨x1h7, x2h7, x3h7⟩ := ah7.1 (by omega)
        refine s_aload_n C dX1_readCondition_30 rfl ?_
        refine s_iload_n C dX1_readCondition_31 rfl ?_
        refine s_callVI (st := []) C (f_readAll_3 l ad τ6 d hXτ6 t n pr hSτ6 (by omega)) cv_X1_46 y68 rfl rfl rfl ⟨by decide, by decide⟩ (Nat.le_of_ble_eq_true rfl) dX1_readCondition_32 ?_
        intro r10 τ11 h12
        have hXτ11 := h12.1
        have hSτ11 := h12.2.2.1
        have bh12 := h12.2.2.2.1
        have pτ11 : pl τ11.1 ≤ n := hSτ11.2.2.2.2
        have ah12 : AlF pr t n 3 ((pl τ.1) + 1) (pl τ11.1) r10 := by have q := h12.2.2.2.2; rw [x3h7] at q; exact q
        refine s_if_ne (tgt := 40) C dX1_readCondition_35 (by decide) (fun q13 => ?_) (fun q13 => ?_)
        · have q4h12 := ((ah12 (List.replicate 3 true) (by simp) rfl)).1 (by omega)
          refine s_aload_n C dX1_readCondition_40 rfl ?_
          refine s_bipush C dX1_readCondition_41 (by decide) (fun z14 tz14 => ?_)
          refine s_callVV (st := []) C (c_X1_add l ad τ11 z14 hXτ11 (pv_op (by omega))) cv_X1_53 y68 rfl rfl rfl ⟨by decide, by decide⟩ (Nat.le_of_ble_eq_true rfl) dX1_readCondition_43 ?_
          intro τ16 h17
          have hXτ16 := h17.1
          have eh17 : τ16.1 66 1 = τ11.1 66 1 := h17.2.1.f 66 1 (by decide) (by decide)
          have kτ16 : pl τ16.1 = (pl τ11.1) := congrArg (fun z : Int32 => z.toInt.toNat) eh17
          have hSτ16 : TS t n pr τ16.1 := hSτ11.go h17.2.1 (by decide) (by decide) (by rw [eh17]; have := hSτ11.2.2.2.1; omega) (by rw [eh17]; have := hSτ11.2.2.2; omega)
          have pτ16 : pl τ16.1 ≤ n := hSτ16.2.2.2.2
          refine s_iinc C dX1_readCondition_46 rfl (by decide) rfl (by decide) (by omega) (fun z18 tz18 => ?_)
          show WP E ad 49 [some (.ref (ad 68)), some (.int d), some (.int z18)] [] τ16
          refine s_goto (tgt := 12) C dX1_readCondition_49 (by decide) ?_
          exact ih τ16 z18 (Fr.tr (Fr.tr (Fr.tr (Fr.tr Fr.rf (Fr.mo kF (by decide) (by decide))) (Fr.mo h7.2.1 (by decide) (by decide))) (Fr.mo h12.2.1 (by decide) (by decide))) (Fr.mo h17.2.1 (by decide) (by decide))) hXτ16 hSτ16 (by omega) (fun o ho ht => by rw [hA o ho ht, A_and x1h7 (by omega) ht, ((ah12 o ho ht).1 (by omega)).1, kτ16]) (by omega) (by rw [kτ16]; omega) (by omega)
        · skip
          refine s_iconst C dX1_readCondition_38 (by decide) (fun z19 tz19 => ?_)
          exact s_zret C (by omega) X dX1_readCondition_39 ⟨hXτ11, (Fr.tr (Fr.tr (Fr.tr Fr.rf (Fr.mo kF (by decide) (by decide))) (Fr.mo h7.2.1 (by decide) (by decide))) (Fr.mo h12.2.1 (by decide) (by decide))), hSτ11, by omega, (fun o ho ht => ⟨fun q => by omega, fun _ => by rw [hA o ho ht, A_and x1h7 (by omega) ht]; exact (ah12 o ho ht).2 (by omega)⟩)⟩
set_option maxRecDepth 100000 in
theorem f_readCondition_3 (l : Launch) (ad : Nat → Nat) (σ : Sg) (d : Int32) (hX : IX σ.1) (t : Nat → Int32) (n : Nat) (pr : Int) (hS : TS t n pr σ.1) (hd : d.toInt = 3) : Mt l yX1_readCondition cX1_readCondition 3 (some .boolean) 12 ad σ [.ref (ad 68), .int d] (oI (fun r τ => IX τ.1 ∧ Fr [69] [(66, 1), (68, 2)] σ τ ∧ TS t n pr τ.1 ∧ (r.toInt = 0 ∨ r.toInt = 1) ∧ CoF pr t n 3 (pl σ.1) (pl τ.1) r)) := by
  have hS5 := hS.2.2.2.2
  have hn60 : n ≤ 60 := by have q1 := hX.tl; have q2 := hS.2.1; omega
  refine Mt_intro (by decide +kernel) (by simp [lg_sl, Value.category]) (fun E C X => ?_)
  show WP E ad 0 [some (.ref (ad 68)), some (.int d), none] [] σ
  refine s_aload_n C dX1_readCondition_0 rfl ?_
  refine s_iload_n C dX1_readCondition_1 rfl ?_
  refine s_callVI (st := []) C (f_readAll_3 l ad σ d hX t n pr hS (by omega)) cv_X1_46 y68 rfl rfl rfl ⟨by decide, by decide⟩ (Nat.le_of_ble_eq_true rfl) dX1_readCondition_2 ?_
  intro r1 τ2 h3
  have hXτ2 := h3.1
  have hSτ2 := h3.2.2.1
  have bh3 := h3.2.2.2.1
  have pτ2 : pl τ2.1 ≤ n := hSτ2.2.2.2.2
  have ah3 : AlF pr t n 3 (pl σ.1) (pl τ2.1) r1 := h3.2.2.2.2
  refine s_if_ne (tgt := 10) C dX1_readCondition_5 (by decide) (fun q4 => ?_) (fun q4 => ?_)
  · have q4h3 := ((ah3 (List.replicate 3 true) (by simp) rfl)).1 (by omega)
    refine s_iconst C dX1_readCondition_10 (by decide) (fun z5 tz5 => ?_)
    refine s_istore_n C dX1_readCondition_11 (by decide) (Nat.le_of_ble_eq_true rfl) rfl ?_
    show WP E ad 12 [some (.ref (ad 68)), some (.int d), some (.int z5)] [] τ2
    exact L_freadCondition_3 l ad E σ t n pr d hd C X 100 τ2 z5 (Fr.tr Fr.rf (Fr.mo h3.2.1 (by decide) (by decide))) hXτ2 hSτ2 (by omega) (fun o ho ht => ((ah3 o ho ht).1 (by omega)).1) (by omega) q4h3.2.2 (by omega)
  · refine s_iconst C dX1_readCondition_8 (by decide) (fun z6 tz6 => ?_)
    exact s_zret C (by omega) X dX1_readCondition_9 ⟨hXτ2, (Fr.tr Fr.rf (Fr.mo h3.2.1 (by decide) (by decide))), hSτ2, by omega, (fun o ho ht => ⟨fun q => by omega, fun _ => (ah3 o ho ht).2 (by omega)⟩)⟩
set_option maxRecDepth 100000 in
theorem f_readTest_2 (l : Launch) (ad : Nat → Nat) (σ : Sg) (d : Int32) (hX : IX σ.1) (t : Nat → Int32) (n : Nat) (pr : Int) (hS : TS t n pr σ.1) (hd : d.toInt = 2) : Mt l yX1_readTest cX1_readTest 3 (some .boolean) 13 ad σ [.ref (ad 68), .int d] (oI (fun r τ => IX τ.1 ∧ Fr [69] [(66, 1), (68, 2)] σ τ ∧ TS t n pr τ.1 ∧ (r.toInt = 0 ∨ r.toInt = 1) ∧ TsF pr t n 2 (pl σ.1) (pl τ.1) r)) := by
  have hS5 := hS.2.2.2.2
  refine Mt_intro (by decide +kernel) (by simp [lg_sl, Value.category]) (fun E C X => ?_)
  show WP E ad 0 [some (.ref (ad 68)), some (.int d), none] [] σ
  refine s_aload_n C dX1_readTest_0 rfl ?_
  refine s_getr (k := 0) (j := 66) C y68 fw_X1_19 rfl dX1_readTest_1 ?_
  refine s_callVI (st := []) C (f_peek l ad σ hX t n pr hS) cv_X1_60 y66 rfl rfl rfl ⟨by decide, by decide⟩ (Nat.le_of_ble_eq_true rfl) dX1_readTest_4 ?_
  intro r1 τ2 h3
  obtain ⟨eh3, h3⟩ := h3; replace eh3 := eh3.symm; subst eh3
  refine s_istore_n C dX1_readTest_7 (by decide) (Nat.le_of_ble_eq_true rfl) rfl ?_
  show WP E ad 8 [some (.ref (ad 68)), some (.int d), some (.int r1)] [] σ
  have hpk := h3
  refine s_iload_n C dX1_readTest_8 rfl ?_
  refine s_bipush C dX1_readTest_9 (by decide) (fun z4 tz4 => ?_)
  refine s_icmp_eq (tgt := 25) C dX1_readTest_11 (by decide) (fun q5 => ?_) (fun q5 => ?_)
  · have hkn : pl σ.1 < n := by unfold tA at hpk; split at hpk <;> omega
    have hkc : (t (pl σ.1)).toInt = r1.toInt := by unfold tA at hpk; rw [if_pos hkn] at hpk; omega
    refine s_iload_n C dX1_readTest_25 rfl ?_
    refine s_iconst C dX1_readTest_26 (by decide) (fun z6 tz6 => ?_)
    refine s_icmp_lt (tgt := 32) C dX1_readTest_27 (by decide) (fun q7 => ?_) (fun q7 => ?_)
    · refine s_aload_n C dX1_readTest_32 rfl ?_
      refine s_getr (k := 0) (j := 66) C y68 fw_X1_19 rfl dX1_readTest_33 ?_
      refine s_iload_n C dX1_readTest_36 rfl ?_
      refine s_callVI (st := []) C (f_accept l ad σ r1 hX t n pr hS ) cv_X1_50 y66 rfl rfl rfl ⟨by decide, by decide⟩ (Nat.le_of_ble_eq_true rfl) dX1_readTest_37 ?_
      intro r8 τ9 h10
      have hXτ9 := h10.1
      have hSτ9 := h10.2.2.1
      have bh10 := h10.2.2.2.1
      have pτ9 : pl τ9.1 ≤ n := hSτ9.2.2.2.2
      have ah10 : AcF t n (pl σ.1) (pl τ9.1) r1 r8 := h10.2.2.2.2
      obtain ⟨x1h10, x2h10, x3h10⟩ := ah10.1 (by rcases bh10 with q | q; (have q2 := ah10.2 q; omega); exact q)
      refine s_pop C dX1_readTest_40 rfl ?_
      refine s_iload_n C dX1_readTest_41 rfl ?_
      refine s_bipush C dX1_readTest_42 (by decide) (fun z11 tz11 => ?_)
      refine s_icmp_ne (tgt := 75) C dX1_readTest_44 (by decide) (fun q12 => ?_) (fun q12 => ?_)
      · refine s_aload_n C dX1_readTest_75 rfl ?_
        refine s_iload_n C dX1_readTest_76 rfl ?_
        refine s_iconst C dX1_readTest_77 (by decide) (fun z13 tz13 => ?_)
        refine s_iadd C dX1_readTest_78 (by omega) (fun z14 tz14 => ?_)
        refine s_callVI (st := []) C (f_readTest_3 l ad τ9 z14 hXτ9 t n pr hSτ9 (by omega)) cv_X1_57 y68 rfl rfl rfl ⟨by decide, by decide⟩ (Nat.le_of_ble_eq_true rfl) dX1_readTest_79 ?_
        intro r15 τ16 h17
        have hXτ16 := h17.1
        have hSτ16 := h17.2.2.1
        have bh17 := h17.2.2.2.1
        have pτ16 : pl τ16.1 ≤ n := hSτ16.2.2.2.2
        have ah17 : TsF pr t n 3 ((pl σ.1) + 1) (pl τ16.1) r15 := by have q := h17.2.2.2.2; rw [x3h10] at q; exact q
        refine s_if_ne (tgt := 87) C dX1_readTest_82 (by decide) (fun q18 => ?_) (fun q18 => ?_)
        · have q4h17 := (ah17 (false :: List.replicate 2 false) (by simp)).1 (by omega)
          refine s_aload_n C dX1_readTest_87 rfl ?_
          refine s_bipush C dX1_readTest_88 (by decide) (fun z19 tz19 => ?_)
          refine s_callVV (st := []) C (c_X1_add l ad τ16 z19 hXτ16 (pv_op (by omega))) cv_X1_53 y68 rfl rfl rfl ⟨by decide, by decide⟩ (Nat.le_of_ble_eq_true rfl) dX1_readTest_90 ?_
          intro τ21 h22
          have hXτ21 := h22.1
          have eh22 : τ21.1 66 1 = τ16.1 66 1 := h22.2.1.f 66 1 (by decide) (by decide)
          have kτ21 : pl τ21.1 = (pl τ16.1) := congrArg (fun z : Int32 => z.toInt.toNat) eh22
          have hSτ21 : TS t n pr τ21.1 := hSτ16.go h22.2.1 (by decide) (by decide) (by rw [eh22]; have := hSτ16.2.2.2.1; omega) (by rw [eh22]; have := hSτ16.2.2.2; omega)
          have pτ21 : pl τ21.1 ≤ n := hSτ21.2.2.2.2
          skip
          refine s_iconst C dX1_readTest_93 (by decide) (fun z23 tz23 => ?_)
          exact s_zret C (by omega) X dX1_readTest_94 ⟨hXτ21, (Fr.tr (Fr.tr (Fr.tr Fr.rf (Fr.mo h10.2.1 (by decide) (by decide))) (Fr.mo h17.2.1 (by decide) (by decide))) (Fr.mo h22.2.1 (by decide) (by decide))), hSτ21, by omega, (by rw [kτ21]; exact (fun o ho => by have q5 := (ah17 (false :: o) (by rw [List.length_cons]; omega)).1 (by omega); exact ⟨fun _ => ⟨by rw [A_open x1h10 (by omega), if_neg (by omega), decide_eq_false (show ¬ (t (pl σ.1)).toInt = 40 by omega)]; rw [q5.1, A_not], by omega⟩, fun q => by omega⟩))⟩
        · skip
          refine s_iconst C dX1_readTest_85 (by decide) (fun z24 tz24 => ?_)
          exact s_zret C (by omega) X dX1_readTest_86 ⟨hXτ16, (Fr.tr (Fr.tr Fr.rf (Fr.mo h10.2.1 (by decide) (by decide))) (Fr.mo h17.2.1 (by decide) (by decide))), hSτ16, by omega, (fun o ho => ⟨fun q => by omega, fun _ => by rw [A_open x1h10 (by omega), if_neg (by omega), decide_eq_false (show ¬ (t (pl σ.1)).toInt = 40 by omega)]; exact (ah17 (false :: o) (by rw [List.length_cons]; omega)).2 (by omega)⟩)⟩
      · refine s_aload_n C dX1_readTest_47 rfl ?_
        refine s_iload_n C dX1_readTest_48 rfl ?_
        refine s_iconst C dX1_readTest_49 (by decide) (fun z25 tz25 => ?_)
        refine s_iadd C dX1_readTest_50 (by omega) (fun z26 tz26 => ?_)
        refine s_callVI (st := []) C (f_readCondition_3 l ad τ9 z26 hXτ9 t n pr hSτ9 (by omega)) cv_X1_68 y68 rfl rfl rfl ⟨by decide, by decide⟩ (Nat.le_of_ble_eq_true rfl) dX1_readTest_51 ?_
        intro r27 τ28 h29
        have hXτ28 := h29.1
        have hSτ28 := h29.2.2.1
        have bh29 := h29.2.2.2.1
        have pτ28 : pl τ28.1 ≤ n := hSτ28.2.2.2.2
        have ah29 : CoF pr t n 3 ((pl σ.1) + 1) (pl τ28.1) r27 := by have q := h29.2.2.2.2; rw [x3h10] at q; exact q
        refine s_if_eq (tgt := 73) C dX1_readTest_54 (by decide) (fun q30 => ?_) (fun q30 => ?_)
        · refine s_iconst C dX1_readTest_73 (by decide) (fun z31 tz31 => ?_)
          exact s_zret C (by omega) X dX1_readTest_74 ⟨hXτ28, (Fr.tr (Fr.tr Fr.rf (Fr.mo h10.2.1 (by decide) (by decide))) (Fr.mo h29.2.1 (by decide) (by decide))), hSτ28, by omega, (fun o ho => ⟨fun q => by omega, fun _ => by rw [A_open x1h10 (by omega), if_neg (by omega), decide_eq_true (show (t (pl σ.1)).toInt = 40 by omega)]; exact (ah29 (true :: o) (by rw [List.length_cons]; omega) rfl).2 (by omega)⟩)⟩
        · have q4h29 := (ah29 (true :: List.replicate 2 false) (by simp) rfl).1 (by omega)
          refine s_aload_n C dX1_readTest_57 rfl ?_
          refine s_getr (k := 0) (j := 66) C y68 fw_X1_19 rfl dX1_readTest_58 ?_
          refine s_bipush C dX1_readTest_61 (by decide) (fun z32 tz32 => ?_)
          refine s_callVI (st := []) C (f_accept l ad τ28 z32 hXτ28 t n pr hSτ28 ) cv_X1_50 y66 rfl rfl rfl ⟨by decide, by decide⟩ (Nat.le_of_ble_eq_true rfl) dX1_readTest_63 ?_
          intro r33 τ34 h35
          have hXτ34 := h35.1
          have hSτ34 := h35.2.2.1
          have bh35 := h35.2.2.2.1
          have pτ34 : pl τ34.1 ≤ n := hSτ34.2.2.2.2
          have ah35 : AcF t n (pl τ28.1) (pl τ34.1) z32 r33 := h35.2.2.2.2
          refine s_if_eq (tgt := 73) C dX1_readTest_66 (by decide) (fun q36 => ?_) (fun q36 => ?_)
          · obtain ⟨y1h35, y2h35⟩ := ah35.2 (by omega)
            refine s_iconst C dX1_readTest_73 (by decide) (fun z37 tz37 => ?_)
            exact s_zret C (by omega) X dX1_readTest_74 ⟨hXτ34, (Fr.tr (Fr.tr (Fr.tr Fr.rf (Fr.mo h10.2.1 (by decide) (by decide))) (Fr.mo h29.2.1 (by decide) (by decide))) (Fr.mo h35.2.1 (by decide) (by decide))), hSτ34, by omega, (by rw [y2h35]; exact (fun o ho => by have q5 := (ah29 (true :: o) (by rw [List.length_cons]; omega) rfl).1 (by omega); exact ⟨fun q => by omega, fun _ => by rw [A_open x1h10 (by omega), if_neg (by omega), decide_eq_true (show (t (pl σ.1)).toInt = 40 by omega)]; rw [q5.1, A_stop3 (by omega) q5.2.2 (y1h35.elim Or.inl (fun z => Or.inr (Or.inl (by omega)))) (Or.inr (by simp))]⟩))⟩
          · obtain ⟨x1h35, x2h35, x3h35⟩ := ah35.1 (by omega)
            refine s_iconst C dX1_readTest_69 (by decide) (fun z38 tz38 => ?_)
            refine s_goto (tgt := 74) C dX1_readTest_70 (by decide) ?_
            exact s_zret C (by omega) X dX1_readTest_74 ⟨hXτ34, (Fr.tr (Fr.tr (Fr.tr Fr.rf (Fr.mo h10.2.1 (by decide) (by decide))) (Fr.mo h29.2.1 (by decide) (by decide))) (Fr.mo h35.2.1 (by decide) (by decide))), hSτ34, by omega, (by rw [x3h35]; exact (fun o ho => by have q5 := (ah29 (true :: o) (by rw [List.length_cons]; omega) rfl).1 (by omega); exact ⟨fun _ => ⟨by rw [A_open x1h10 (by omega), if_neg (by omega), decide_eq_true (show (t (pl σ.1)).toInt = 40 by omega)]; rw [q5.1, A_close x1h35 (by omega)], by omega⟩, fun q => by omega⟩))⟩
    · omega
  · refine s_iload_n C dX1_readTest_14 rfl ?_
    refine s_bipush C dX1_readTest_15 (by decide) (fun z39 tz39 => ?_)
    refine s_icmp_eq (tgt := 25) C dX1_readTest_17 (by decide) (fun q40 => ?_) (fun q40 => ?_)
    · have hkn : pl σ.1 < n := by unfold tA at hpk; split at hpk <;> omega
      have hkc : (t (pl σ.1)).toInt = r1.toInt := by unfold tA at hpk; rw [if_pos hkn] at hpk; omega
      refine s_iload_n C dX1_readTest_25 rfl ?_
      refine s_iconst C dX1_readTest_26 (by decide) (fun z41 tz41 => ?_)
      refine s_icmp_lt (tgt := 32) C dX1_readTest_27 (by decide) (fun q42 => ?_) (fun q42 => ?_)
      · refine s_aload_n C dX1_readTest_32 rfl ?_
        refine s_getr (k := 0) (j := 66) C y68 fw_X1_19 rfl dX1_readTest_33 ?_
        refine s_iload_n C dX1_readTest_36 rfl ?_
        refine s_callVI (st := []) C (f_accept l ad σ r1 hX t n pr hS ) cv_X1_50 y66 rfl rfl rfl ⟨by decide, by decide⟩ (Nat.le_of_ble_eq_true rfl) dX1_readTest_37 ?_
        intro r43 τ44 h45
        have hXτ44 := h45.1
        have hSτ44 := h45.2.2.1
        have bh45 := h45.2.2.2.1
        have pτ44 : pl τ44.1 ≤ n := hSτ44.2.2.2.2
        have ah45 : AcF t n (pl σ.1) (pl τ44.1) r1 r43 := h45.2.2.2.2
        obtain ⟨x1h45, x2h45, x3h45⟩ := ah45.1 (by rcases bh45 with q | q; (have q2 := ah45.2 q; omega); exact q)
        refine s_pop C dX1_readTest_40 rfl ?_
        refine s_iload_n C dX1_readTest_41 rfl ?_
        refine s_bipush C dX1_readTest_42 (by decide) (fun z46 tz46 => ?_)
        refine s_icmp_ne (tgt := 75) C dX1_readTest_44 (by decide) (fun q47 => ?_) (fun q47 => ?_)
        · refine s_aload_n C dX1_readTest_75 rfl ?_
          refine s_iload_n C dX1_readTest_76 rfl ?_
          refine s_iconst C dX1_readTest_77 (by decide) (fun z48 tz48 => ?_)
          refine s_iadd C dX1_readTest_78 (by omega) (fun z49 tz49 => ?_)
          refine s_callVI (st := []) C (f_readTest_3 l ad τ44 z49 hXτ44 t n pr hSτ44 (by omega)) cv_X1_57 y68 rfl rfl rfl ⟨by decide, by decide⟩ (Nat.le_of_ble_eq_true rfl) dX1_readTest_79 ?_
          intro r50 τ51 h52
          have hXτ51 := h52.1
          have hSτ51 := h52.2.2.1
          have bh52 := h52.2.2.2.1
          have pτ51 : pl τ51.1 ≤ n := hSτ51.2.2.2.2
          have ah52 : TsF pr t n 3 ((pl σ.1) + 1) (pl τ51.1) r50 := by have q := h52.2.2.2.2; rw [x3h45] at q; exact q
          refine s_if_ne (tgt := 87) C dX1_readTest_82 (by decide) (fun q53 => ?_) (fun q53 => ?_)
          · have q4h52 := (ah52 (false :: List.replicate 2 false) (by simp)).1 (by omega)
            refine s_aload_n C dX1_readTest_87 rfl ?_
            refine s_bipush C dX1_readTest_88 (by decide) (fun z54 tz54 => ?_)
            refine s_callVV (st := []) C (c_X1_add l ad τ51 z54 hXτ51 (pv_op (by omega))) cv_X1_53 y68 rfl rfl rfl ⟨by decide, by decide⟩ (Nat.le_of_ble_eq_true rfl) dX1_readTest_90 ?_
            intro τ56 h57
            have hXτ56 := h57.1
            have eh57 : τ56.1 66 1 = τ51.1 66 1 := h57.2.1.f 66 1 (by decide) (by decide)
            have kτ56 : pl τ56.1 = (pl τ51.1) := congrArg (fun z : Int32 => z.toInt.toNat) eh57
            have hSτ56 : TS t n pr τ56.1 := hSτ51.go h57.2.1 (by decide) (by decide) (by rw [eh57]; have := hSτ51.2.2.2.1; omega) (by rw [eh57]; have := hSτ51.2.2.2; omega)
            have pτ56 : pl τ56.1 ≤ n := hSτ56.2.2.2.2
            skip
            refine s_iconst C dX1_readTest_93 (by decide) (fun z58 tz58 => ?_)
            exact s_zret C (by omega) X dX1_readTest_94 ⟨hXτ56, (Fr.tr (Fr.tr (Fr.tr Fr.rf (Fr.mo h45.2.1 (by decide) (by decide))) (Fr.mo h52.2.1 (by decide) (by decide))) (Fr.mo h57.2.1 (by decide) (by decide))), hSτ56, by omega, (by rw [kτ56]; exact (fun o ho => by have q5 := (ah52 (false :: o) (by rw [List.length_cons]; omega)).1 (by omega); exact ⟨fun _ => ⟨by rw [A_open x1h45 (by omega), if_neg (by omega), decide_eq_false (show ¬ (t (pl σ.1)).toInt = 40 by omega)]; rw [q5.1, A_not], by omega⟩, fun q => by omega⟩))⟩
          · skip
            refine s_iconst C dX1_readTest_85 (by decide) (fun z59 tz59 => ?_)
            exact s_zret C (by omega) X dX1_readTest_86 ⟨hXτ51, (Fr.tr (Fr.tr Fr.rf (Fr.mo h45.2.1 (by decide) (by decide))) (Fr.mo h52.2.1 (by decide) (by decide))), hSτ51, by omega, (fun o ho => ⟨fun q => by omega, fun _ => by rw [A_open x1h45 (by omega), if_neg (by omega), decide_eq_false (show ¬ (t (pl σ.1)).toInt = 40 by omega)]; exact (ah52 (false :: o) (by rw [List.length_cons]; omega)).2 (by omega)⟩)⟩
        · refine s_aload_n C dX1_readTest_47 rfl ?_
          refine s_iload_n C dX1_readTest_48 rfl ?_
          refine s_iconst C dX1_readTest_49 (by decide) (fun z60 tz60 => ?_)
          refine s_iadd C dX1_readTest_50 (by omega) (fun z61 tz61 => ?_)
          refine s_callVI (st := []) C (f_readCondition_3 l ad τ44 z61 hXτ44 t n pr hSτ44 (by omega)) cv_X1_68 y68 rfl rfl rfl ⟨by decide, by decide⟩ (Nat.le_of_ble_eq_true rfl) dX1_readTest_51 ?_
          intro r62 τ63 h64
          have hXτ63 := h64.1
          have hSτ63 := h64.2.2.1
          have bh64 := h64.2.2.2.1
          have pτ63 : pl τ63.1 ≤ n := hSτ63.2.2.2.2
          have ah64 : CoF pr t n 3 ((pl σ.1) + 1) (pl τ63.1) r62 := by have q := h64.2.2.2.2; rw [x3h45] at q; exact q
          refine s_if_eq (tgt := 73) C dX1_readTest_54 (by decide) (fun q65 => ?_) (fun q65 => ?_)
          · refine s_iconst C dX1_readTest_73 (by decide) (fun z66 tz66 => ?_)
            exact s_zret C (by omega) X dX1_readTest_74 ⟨hXτ63, (Fr.tr (Fr.tr Fr.rf (Fr.mo h45.2.1 (by decide) (by decide))) (Fr.mo h64.2.1 (by decide) (by decide))), hSτ63, by omega, (fun o ho => ⟨fun q => by omega, fun _ => by rw [A_open x1h45 (by omega), if_neg (by omega), decide_eq_true (show (t (pl σ.1)).toInt = 40 by omega)]; exact (ah64 (true :: o) (by rw [List.length_cons]; omega) rfl).2 (by omega)⟩)⟩
          · have q4h64 := (ah64 (true :: List.replicate 2 false) (by simp) rfl).1 (by omega)
            refine s_aload_n C dX1_readTest_57 rfl ?_
            refine s_getr (k := 0) (j := 66) C y68 fw_X1_19 rfl dX1_readTest_58 ?_
            refine s_bipush C dX1_readTest_61 (by decide) (fun z67 tz67 => ?_)
            refine s_callVI (st := []) C (f_accept l ad τ63 z67 hXτ63 t n pr hSτ63 ) cv_X1_50 y66 rfl rfl rfl ⟨by decide, by decide⟩ (Nat.le_of_ble_eq_true rfl) dX1_readTest_63 ?_
            intro r68 τ69 h70
            have hXτ69 := h70.1
            have hSτ69 := h70.2.2.1
            have bh70 := h70.2.2.2.1
            have pτ69 : pl τ69.1 ≤ n := hSτ69.2.2.2.2
            have ah70 : AcF t n (pl τ63.1) (pl τ69.1) z67 r68 := h70.2.2.2.2
            refine s_if_eq (tgt := 73) C dX1_readTest_66 (by decide) (fun q71 => ?_) (fun q71 => ?_)
            · obtain ⟨y1h70, y2h70⟩ := ah70.2 (by omega)
              refine s_iconst C dX1_readTest_73 (by decide) (fun z72 tz72 => ?_)
              exact s_zret C (by omega) X dX1_readTest_74 ⟨hXτ69, (Fr.tr (Fr.tr (Fr.tr Fr.rf (Fr.mo h45.2.1 (by decide) (by decide))) (Fr.mo h64.2.1 (by decide) (by decide))) (Fr.mo h70.2.1 (by decide) (by decide))), hSτ69, by omega, (by rw [y2h70]; exact (fun o ho => by have q5 := (ah64 (true :: o) (by rw [List.length_cons]; omega) rfl).1 (by omega); exact ⟨fun q => by omega, fun _ => by rw [A_open x1h45 (by omega), if_neg (by omega), decide_eq_true (show (t (pl σ.1)).toInt = 40 by omega)]; rw [q5.1, A_stop3 (by omega) q5.2.2 (y1h70.elim Or.inl (fun z => Or.inr (Or.inl (by omega)))) (Or.inr (by simp))]⟩))⟩
            · obtain ⟨x1h70, x2h70, x3h70⟩ := ah70.1 (by omega)
              refine s_iconst C dX1_readTest_69 (by decide) (fun z73 tz73 => ?_)
              refine s_goto (tgt := 74) C dX1_readTest_70 (by decide) ?_
              exact s_zret C (by omega) X dX1_readTest_74 ⟨hXτ69, (Fr.tr (Fr.tr (Fr.tr Fr.rf (Fr.mo h45.2.1 (by decide) (by decide))) (Fr.mo h64.2.1 (by decide) (by decide))) (Fr.mo h70.2.1 (by decide) (by decide))), hSτ69, by omega, (by rw [x3h70]; exact (fun o ho => by have q5 := (ah64 (true :: o) (by rw [List.length_cons]; omega) rfl).1 (by omega); exact ⟨fun _ => ⟨by rw [A_open x1h45 (by omega), if_neg (by omega), decide_eq_true (show (t (pl σ.1)).toInt = 40 by omega)]; rw [q5.1, A_close x1h70 (by omega)], by omega⟩, fun q => by omega⟩))⟩
      · omega
    · skip
      have hc : n ≤ pl σ.1 ∨ ¬ ((t (pl σ.1)).toInt = 33 ∨ (t (pl σ.1)).toInt = 40) := by unfold tA at hpk; split at hpk <;> omega
      refine s_aload_n C dX1_readTest_20 rfl ?_
      refine s_callVI (st := []) C (f_readComparison l ad σ  hX t n pr hS ) cv_X1_64 y68 rfl rfl rfl ⟨by decide, by decide⟩ (Nat.le_of_ble_eq_true rfl) dX1_readTest_21 ?_
      intro r74 τ75 h76
      have hXτ75 := h76.1
      have hSτ75 := h76.2.2.1
      have bh76 := h76.2.2.2.1
      have pτ75 : pl τ75.1 ≤ n := hSτ75.2.2.2.2
      have ah76 : CmF pr t n (pl σ.1) (pl τ75.1) r74 := h76.2.2.2.2
      exact s_zret C (by omega) X dX1_readTest_24 ⟨hXτ75, (Fr.tr Fr.rf (Fr.mo h76.2.1 (by decide) (by decide))), hSτ75, by omega, (fun o ho => ah76 hc o)⟩
set_option maxRecDepth 100000 in
theorem L_freadAll_2 (l : Launch) (ad : Nat → Nat) (E : Ev) (σ : Sg) (t : Nat → Int32) (n : Nat) (pr : Int) (d : Int32) (hd : d.toInt = 2) (C : Cx E l (rmk 14) 3 cX1_readAll RX1) (X : Rx E ad (some .boolean) (oI (fun r τ => IX τ.1 ∧ Fr [69] [(66, 1), (68, 2)] σ τ ∧ TS t n pr τ.1 ∧ (r.toInt = 0 ∨ r.toInt = 1) ∧ AlF pr t n 2 (pl σ.1) (pl τ.1) r)))  : ∀ (mm : Nat) (τ : Sg) (z : Int32), (Fr [69] [(66, 1), (68, 2)] σ τ) → (IX τ.1) → (TS t n pr τ.1) → (0 ≤ z.toInt ∧ z.toInt ≤ pl τ.1) → (∀ o : List Bool, o.length = 2 → te o = o → Au pr t n 0 o (pl σ.1) = Au pr t n 3 o (pl τ.1)) → (pl σ.1 < pl τ.1) → (60 - z.toInt).toNat < mm → WP E ad 12 [some (.ref (ad 68)), some (.int d), some (.int z)] [] τ := by
  intro mm
  induction mm with
  | zero => intro τ z kF hXτ hSτ h0 hA hgt hm9; exact absurd hm9 (Nat.not_lt_zero _)
  | succ mm ih =>
    intro τ z kF hXτ hSτ h0 hA hgt hm9
    have hS5 : pl τ.1 ≤ n := hSτ.2.2.2.2
    have hn60 : n ≤ 60 := by have q1 := hXτ.tl; have q2 := hSτ.2.1; omega
    refine s_iload_n C dX1_readAll_12 rfl ?_
    refine s_bipush C dX1_readAll_13 (by decide) (fun z1 tz1 => ?_)
    refine s_icmp_ge (tgt := 52) C dX1_readAll_15 (by decide) (fun q2 => ?_) (fun q2 => ?_)
    · skip
      refine s_iconst C dX1_readAll_52 (by decide) (fun z3 tz3 => ?_)
      exact s_zret C (by omega) X dX1_readAll_53 ⟨hXτ, (Fr.tr Fr.rf (Fr.mo kF (by decide) (by decide))), hSτ, by omega, (fun o ho ht => ⟨fun _ => ⟨hA o ho ht, hgt, by omega⟩, fun q => by omega⟩)⟩
    · refine s_aload_n C dX1_readAll_18 rfl ?_
      refine s_getr (k := 0) (j := 66) C y68 fw_X1_19 rfl dX1_readAll_19 ?_
      refine s_bipush C dX1_readAll_22 (by decide) (fun z4 tz4 => ?_)
      refine s_callVI (st := []) C (f_accept l ad τ z4 hXτ t n pr hSτ ) cv_X1_50 y66 rfl rfl rfl ⟨by decide, by decide⟩ (Nat.le_of_ble_eq_true rfl) dX1_readAll_24 ?_
      intro r5 τ6 h7
      have hXτ6 := h7.1
      have hSτ6 := h7.2.2.1
      have bh7 := h7.2.2.2.1
      have pτ6 : pl τ6.1 ≤ n := hSτ6.2.2.2.2
      have ah7 : AcF t n (pl τ.1) (pl τ6.1) z4 r5 := h7.2.2.2.2
      refine s_if_eq (tgt := 52) C dX1_readAll_27 (by decide) (fun q8 => ?_) (fun q8 => ?_)
      · obtain ⟨y1h7, y2h7⟩ := ah7.2 (by omega)
        skip
        refine s_iconst C dX1_readAll_52 (by decide) (fun z9 tz9 => ?_)
        exact s_zret C (by omega) X dX1_readAll_53 ⟨hXτ6, (Fr.tr (Fr.tr Fr.rf (Fr.mo kF (by decide) (by decide))) (Fr.mo h7.2.1 (by decide) (by decide))), hSτ6, by omega, (by rw [y2h7]; exact (fun o ho ht => ⟨fun _ => ⟨hA o ho ht, hgt, by omega⟩, fun q => by omega⟩))⟩
      · obtain ⟨x1h7, x2h7, x3h7⟩ := ah7.1 (by omega)
        refine s_aload_n C dX1_readAll_30 rfl ?_
        refine s_iload_n C dX1_readAll_31 rfl ?_
        refine s_callVI (st := []) C (f_readTest_2 l ad τ6 d hXτ6 t n pr hSτ6 (by omega)) cv_X1_57 y68 rfl rfl rfl ⟨by decide, by decide⟩ (Nat.le_of_ble_eq_true rfl) dX1_readAll_32 ?_
        intro r10 τ11 h12
        have hXτ11 := h12.1
        have hSτ11 := h12.2.2.1
        have bh12 := h12.2.2.2.1
        have pτ11 : pl τ11.1 ≤ n := hSτ11.2.2.2.2
        have ah12 : TsF pr t n 2 ((pl τ.1) + 1) (pl τ11.1) r10 := by have q := h12.2.2.2.2; rw [x3h7] at q; exact q
        refine s_if_ne (tgt := 40) C dX1_readAll_35 (by decide) (fun q13 => ?_) (fun q13 => ?_)
        · have q4h12 := ((ah12 (List.replicate 2 true) (by simp))).1 (by omega)
          refine s_aload_n C dX1_readAll_40 rfl ?_
          refine s_bipush C dX1_readAll_41 (by decide) (fun z14 tz14 => ?_)
          refine s_callVV (st := []) C (c_X1_add l ad τ11 z14 hXτ11 (pv_op (by omega))) cv_X1_53 y68 rfl rfl rfl ⟨by decide, by decide⟩ (Nat.le_of_ble_eq_true rfl) dX1_readAll_43 ?_
          intro τ16 h17
          have hXτ16 := h17.1
          have eh17 : τ16.1 66 1 = τ11.1 66 1 := h17.2.1.f 66 1 (by decide) (by decide)
          have kτ16 : pl τ16.1 = (pl τ11.1) := congrArg (fun z : Int32 => z.toInt.toNat) eh17
          have hSτ16 : TS t n pr τ16.1 := hSτ11.go h17.2.1 (by decide) (by decide) (by rw [eh17]; have := hSτ11.2.2.2.1; omega) (by rw [eh17]; have := hSτ11.2.2.2; omega)
          have pτ16 : pl τ16.1 ≤ n := hSτ16.2.2.2.2
          refine s_iinc C dX1_readAll_46 rfl (by decide) rfl (by decide) (by omega) (fun z18 tz18 => ?_)
          show WP E ad 49 [some (.ref (ad 68)), some (.int d), some (.int z18)] [] τ16
          refine s_goto (tgt := 12) C dX1_readAll_49 (by decide) ?_
          exact ih τ16 z18 (Fr.tr (Fr.tr (Fr.tr (Fr.tr Fr.rf (Fr.mo kF (by decide) (by decide))) (Fr.mo h7.2.1 (by decide) (by decide))) (Fr.mo h12.2.1 (by decide) (by decide))) (Fr.mo h17.2.1 (by decide) (by decide))) hXτ16 hSτ16 (by omega) (fun o ho ht => by rw [hA o ho ht, A_and x1h7 (by omega) ht, ((ah12 o ho).1 (by omega)).1, kτ16]) (by omega) (by omega)
        · skip
          refine s_iconst C dX1_readAll_38 (by decide) (fun z19 tz19 => ?_)
          exact s_zret C (by omega) X dX1_readAll_39 ⟨hXτ11, (Fr.tr (Fr.tr (Fr.tr Fr.rf (Fr.mo kF (by decide) (by decide))) (Fr.mo h7.2.1 (by decide) (by decide))) (Fr.mo h12.2.1 (by decide) (by decide))), hSτ11, by omega, (fun o ho ht => ⟨fun q => by omega, fun _ => by rw [hA o ho ht, A_and x1h7 (by omega) ht]; exact (ah12 o ho).2 (by omega)⟩)⟩
set_option maxRecDepth 100000 in
theorem f_readAll_2 (l : Launch) (ad : Nat → Nat) (σ : Sg) (d : Int32) (hX : IX σ.1) (t : Nat → Int32) (n : Nat) (pr : Int) (hS : TS t n pr σ.1) (hd : d.toInt = 2) : Mt l yX1_readAll cX1_readAll 3 (some .boolean) 14 ad σ [.ref (ad 68), .int d] (oI (fun r τ => IX τ.1 ∧ Fr [69] [(66, 1), (68, 2)] σ τ ∧ TS t n pr τ.1 ∧ (r.toInt = 0 ∨ r.toInt = 1) ∧ AlF pr t n 2 (pl σ.1) (pl τ.1) r)) := by
  have hS5 := hS.2.2.2.2
  have hn60 : n ≤ 60 := by have q1 := hX.tl; have q2 := hS.2.1; omega
  refine Mt_intro (by decide +kernel) (by simp [lg_sl, Value.category]) (fun E C X => ?_)
  show WP E ad 0 [some (.ref (ad 68)), some (.int d), none] [] σ
  refine s_aload_n C dX1_readAll_0 rfl ?_
  refine s_iload_n C dX1_readAll_1 rfl ?_
  refine s_callVI (st := []) C (f_readTest_2 l ad σ d hX t n pr hS (by omega)) cv_X1_57 y68 rfl rfl rfl ⟨by decide, by decide⟩ (Nat.le_of_ble_eq_true rfl) dX1_readAll_2 ?_
  intro r1 τ2 h3
  have hXτ2 := h3.1
  have hSτ2 := h3.2.2.1
  have bh3 := h3.2.2.2.1
  have pτ2 : pl τ2.1 ≤ n := hSτ2.2.2.2.2
  have ah3 : TsF pr t n 2 (pl σ.1) (pl τ2.1) r1 := h3.2.2.2.2
  refine s_if_ne (tgt := 10) C dX1_readAll_5 (by decide) (fun q4 => ?_) (fun q4 => ?_)
  · have q4h3 := ((ah3 (List.replicate 2 true) (by simp))).1 (by omega)
    refine s_iconst C dX1_readAll_10 (by decide) (fun z5 tz5 => ?_)
    refine s_istore_n C dX1_readAll_11 (by decide) (Nat.le_of_ble_eq_true rfl) rfl ?_
    show WP E ad 12 [some (.ref (ad 68)), some (.int d), some (.int z5)] [] τ2
    exact L_freadAll_2 l ad E σ t n pr d hd C X 100 τ2 z5 (Fr.tr Fr.rf (Fr.mo h3.2.1 (by decide) (by decide))) hXτ2 hSτ2 (by omega) (fun o ho ht => ((ah3 o ho).1 (by omega)).1) (by omega) (by omega)
  · refine s_iconst C dX1_readAll_8 (by decide) (fun z6 tz6 => ?_)
    exact s_zret C (by omega) X dX1_readAll_9 ⟨hXτ2, (Fr.tr Fr.rf (Fr.mo h3.2.1 (by decide) (by decide))), hSτ2, by omega, (fun o ho ht => ⟨fun q => by omega, fun _ => (ah3 o ho).2 (by omega)⟩)⟩
set_option maxRecDepth 100000 in
theorem L_freadCondition_2 (l : Launch) (ad : Nat → Nat) (E : Ev) (σ : Sg) (t : Nat → Int32) (n : Nat) (pr : Int) (d : Int32) (hd : d.toInt = 2) (C : Cx E l (rmk 15) 3 cX1_readCondition RX1) (X : Rx E ad (some .boolean) (oI (fun r τ => IX τ.1 ∧ Fr [69] [(66, 1), (68, 2)] σ τ ∧ TS t n pr τ.1 ∧ (r.toInt = 0 ∨ r.toInt = 1) ∧ CoF pr t n 2 (pl σ.1) (pl τ.1) r)))  : ∀ (mm : Nat) (τ : Sg) (z : Int32), (Fr [69] [(66, 1), (68, 2)] σ τ) → (IX τ.1) → (TS t n pr τ.1) → (0 ≤ z.toInt ∧ z.toInt ≤ pl τ.1) → (∀ o : List Bool, o.length = 2 → te o = o → Au pr t n 0 o (pl σ.1) = Au pr t n 3 o (pl τ.1)) → (pl σ.1 < pl τ.1) → ((n ≤ pl τ.1 ∨ ¬ (t (pl τ.1)).toInt = 38)) → (60 - z.toInt).toNat < mm → WP E ad 12 [some (.ref (ad 68)), some (.int d), some (.int z)] [] τ := by
  intro mm
  induction mm with
  | zero => intro τ z kF hXτ hSτ h0 hA hgt hst hm9; exact absurd hm9 (Nat.not_lt_zero _)
  | succ mm ih =>
    intro τ z kF hXτ hSτ h0 hA hgt hst hm9
    have hS5 : pl τ.1 ≤ n := hSτ.2.2.2.2
    have hn60 : n ≤ 60 := by have q1 := hXτ.tl; have q2 := hSτ.2.1; omega
    refine s_iload_n C dX1_readCondition_12 rfl ?_
    refine s_bipush C dX1_readCondition_13 (by decide) (fun z1 tz1 => ?_)
    refine s_icmp_ge (tgt := 52) C dX1_readCondition_15 (by decide) (fun q2 => ?_) (fun q2 => ?_)
    · skip
      refine s_iconst C dX1_readCondition_52 (by decide) (fun z3 tz3 => ?_)
      exact s_zret C (by omega) X dX1_readCondition_53 ⟨hXτ, (Fr.tr Fr.rf (Fr.mo kF (by decide) (by decide))), hSτ, by omega, (fun o ho ht => ⟨fun _ => ⟨hA o ho ht, hgt, by omega⟩, fun q => by omega⟩)⟩
    · refine s_aload_n C dX1_readCondition_18 rfl ?_
      refine s_getr (k := 0) (j := 66) C y68 fw_X1_19 rfl dX1_readCondition_19 ?_
      refine s_bipush C dX1_readCondition_22 (by decide) (fun z4 tz4 => ?_)
      refine s_callVI (st := []) C (f_accept l ad τ z4 hXτ t n pr hSτ ) cv_X1_50 y66 rfl rfl rfl ⟨by decide, by decide⟩ (Nat.le_of_ble_eq_true rfl) dX1_readCondition_24 ?_
      intro r5 τ6 h7
      have hXτ6 := h7.1
      have hSτ6 := h7.2.2.1
      have bh7 := h7.2.2.2.1
      have pτ6 : pl τ6.1 ≤ n := hSτ6.2.2.2.2
      have ah7 : AcF t n (pl τ.1) (pl τ6.1) z4 r5 := h7.2.2.2.2
      refine s_if_eq (tgt := 52) C dX1_readCondition_27 (by decide) (fun q8 => ?_) (fun q8 => ?_)
      · obtain ⟨y1h7, y2h7⟩ := ah7.2 (by omega)
        skip
        refine s_iconst C dX1_readCondition_52 (by decide) (fun z9 tz9 => ?_)
        exact s_zret C (by omega) X dX1_readCondition_53 ⟨hXτ6, (Fr.tr (Fr.tr Fr.rf (Fr.mo kF (by decide) (by decide))) (Fr.mo h7.2.1 (by decide) (by decide))), hSτ6, by omega, (by rw [y2h7]; exact (fun o ho ht => ⟨fun _ => ⟨hA o ho ht, hgt, by omega⟩, fun q => by omega⟩))⟩
      · obtain ⟨x1h7, x2h7, x3h7⟩ := ah7.1 (by omega)
        refine s_aload_n C dX1_readCondition_30 rfl ?_
        refine s_iload_n C dX1_readCondition_31 rfl ?_
        refine s_callVI (st := []) C (f_readAll_2 l ad τ6 d hXτ6 t n pr hSτ6 (by omega)) cv_X1_46 y68 rfl rfl rfl ⟨by decide, by decide⟩ (Nat.le_of_ble_eq_true rfl) dX1_readCondition_32 ?_
        intro r10 τ11 h12
        have hXτ11 := h12.1
        have hSτ11 := h12.2.2.1
        have bh12 := h12.2.2.2.1
        have pτ11 : pl τ11.1 ≤ n := hSτ11.2.2.2.2
        have ah12 : AlF pr t n 2 ((pl τ.1) + 1) (pl τ11.1) r10 := by have q := h12.2.2.2.2; rw [x3h7] at q; exact q
        refine s_if_ne (tgt := 40) C dX1_readCondition_35 (by decide) (fun q13 => ?_) (fun q13 => ?_)
        · have q4h12 := ((ah12 (List.replicate 2 true) (by simp) rfl)).1 (by omega)
          refine s_aload_n C dX1_readCondition_40 rfl ?_
          refine s_bipush C dX1_readCondition_41 (by decide) (fun z14 tz14 => ?_)
          refine s_callVV (st := []) C (c_X1_add l ad τ11 z14 hXτ11 (pv_op (by omega))) cv_X1_53 y68 rfl rfl rfl ⟨by decide, by decide⟩ (Nat.le_of_ble_eq_true rfl) dX1_readCondition_43 ?_
          intro τ16 h17
          have hXτ16 := h17.1
          have eh17 : τ16.1 66 1 = τ11.1 66 1 := h17.2.1.f 66 1 (by decide) (by decide)
          have kτ16 : pl τ16.1 = (pl τ11.1) := congrArg (fun z : Int32 => z.toInt.toNat) eh17
          have hSτ16 : TS t n pr τ16.1 := hSτ11.go h17.2.1 (by decide) (by decide) (by rw [eh17]; have := hSτ11.2.2.2.1; omega) (by rw [eh17]; have := hSτ11.2.2.2; omega)
          have pτ16 : pl τ16.1 ≤ n := hSτ16.2.2.2.2
          refine s_iinc C dX1_readCondition_46 rfl (by decide) rfl (by decide) (by omega) (fun z18 tz18 => ?_)
          show WP E ad 49 [some (.ref (ad 68)), some (.int d), some (.int z18)] [] τ16
          refine s_goto (tgt := 12) C dX1_readCondition_49 (by decide) ?_
          exact ih τ16 z18 (Fr.tr (Fr.tr (Fr.tr (Fr.tr Fr.rf (Fr.mo kF (by decide) (by decide))) (Fr.mo h7.2.1 (by decide) (by decide))) (Fr.mo h12.2.1 (by decide) (by decide))) (Fr.mo h17.2.1 (by decide) (by decide))) hXτ16 hSτ16 (by omega) (fun o ho ht => by rw [hA o ho ht, A_and x1h7 (by omega) ht, ((ah12 o ho ht).1 (by omega)).1, kτ16]) (by omega) (by rw [kτ16]; omega) (by omega)
        · skip
          refine s_iconst C dX1_readCondition_38 (by decide) (fun z19 tz19 => ?_)
          exact s_zret C (by omega) X dX1_readCondition_39 ⟨hXτ11, (Fr.tr (Fr.tr (Fr.tr Fr.rf (Fr.mo kF (by decide) (by decide))) (Fr.mo h7.2.1 (by decide) (by decide))) (Fr.mo h12.2.1 (by decide) (by decide))), hSτ11, by omega, (fun o ho ht => ⟨fun q => by omega, fun _ => by rw [hA o ho ht, A_and x1h7 (by omega) ht]; exact (ah12 o ho ht).2 (by omega)⟩)⟩
set_option maxRecDepth 100000 in
theorem f_readCondition_2 (l : Launch) (ad : Nat → Nat) (σ : Sg) (d : Int32) (hX : IX σ.1) (t : Nat → Int32) (n : Nat) (pr : Int) (hS : TS t n pr σ.1) (hd : d.toInt = 2) : Mt l yX1_readCondition cX1_readCondition 3 (some .boolean) 15 ad σ [.ref (ad 68), .int d] (oI (fun r τ => IX τ.1 ∧ Fr [69] [(66, 1), (68, 2)] σ τ ∧ TS t n pr τ.1 ∧ (r.toInt = 0 ∨ r.toInt = 1) ∧ CoF pr t n 2 (pl σ.1) (pl τ.1) r)) := by
  have hS5 := hS.2.2.2.2
  have hn60 : n ≤ 60 := by have q1 := hX.tl; have q2 := hS.2.1; omega
  refine Mt_intro (by decide +kernel) (by simp [lg_sl, Value.category]) (fun E C X => ?_)
  show WP E ad 0 [some (.ref (ad 68)), some (.int d), none] [] σ
  refine s_aload_n C dX1_readCondition_0 rfl ?_
  refine s_iload_n C dX1_readCondition_1 rfl ?_
  refine s_callVI (st := []) C (f_readAll_2 l ad σ d hX t n pr hS (by omega)) cv_X1_46 y68 rfl rfl rfl ⟨by decide, by decide⟩ (Nat.le_of_ble_eq_true rfl) dX1_readCondition_2 ?_
  intro r1 τ2 h3
  have hXτ2 := h3.1
  have hSτ2 := h3.2.2.1
  have bh3 := h3.2.2.2.1
  have pτ2 : pl τ2.1 ≤ n := hSτ2.2.2.2.2
  have ah3 : AlF pr t n 2 (pl σ.1) (pl τ2.1) r1 := h3.2.2.2.2
  refine s_if_ne (tgt := 10) C dX1_readCondition_5 (by decide) (fun q4 => ?_) (fun q4 => ?_)
  · have q4h3 := ((ah3 (List.replicate 2 true) (by simp) rfl)).1 (by omega)
    refine s_iconst C dX1_readCondition_10 (by decide) (fun z5 tz5 => ?_)
    refine s_istore_n C dX1_readCondition_11 (by decide) (Nat.le_of_ble_eq_true rfl) rfl ?_
    show WP E ad 12 [some (.ref (ad 68)), some (.int d), some (.int z5)] [] τ2
    exact L_freadCondition_2 l ad E σ t n pr d hd C X 100 τ2 z5 (Fr.tr Fr.rf (Fr.mo h3.2.1 (by decide) (by decide))) hXτ2 hSτ2 (by omega) (fun o ho ht => ((ah3 o ho ht).1 (by omega)).1) (by omega) q4h3.2.2 (by omega)
  · refine s_iconst C dX1_readCondition_8 (by decide) (fun z6 tz6 => ?_)
    exact s_zret C (by omega) X dX1_readCondition_9 ⟨hXτ2, (Fr.tr Fr.rf (Fr.mo h3.2.1 (by decide) (by decide))), hSτ2, by omega, (fun o ho ht => ⟨fun q => by omega, fun _ => (ah3 o ho ht).2 (by omega)⟩)⟩
set_option maxRecDepth 100000 in
theorem f_readTest_1 (l : Launch) (ad : Nat → Nat) (σ : Sg) (d : Int32) (hX : IX σ.1) (t : Nat → Int32) (n : Nat) (pr : Int) (hS : TS t n pr σ.1) (hd : d.toInt = 1) : Mt l yX1_readTest cX1_readTest 3 (some .boolean) 16 ad σ [.ref (ad 68), .int d] (oI (fun r τ => IX τ.1 ∧ Fr [69] [(66, 1), (68, 2)] σ τ ∧ TS t n pr τ.1 ∧ (r.toInt = 0 ∨ r.toInt = 1) ∧ TsF pr t n 1 (pl σ.1) (pl τ.1) r)) := by
  have hS5 := hS.2.2.2.2
  refine Mt_intro (by decide +kernel) (by simp [lg_sl, Value.category]) (fun E C X => ?_)
  show WP E ad 0 [some (.ref (ad 68)), some (.int d), none] [] σ
  refine s_aload_n C dX1_readTest_0 rfl ?_
  refine s_getr (k := 0) (j := 66) C y68 fw_X1_19 rfl dX1_readTest_1 ?_
  refine s_callVI (st := []) C (f_peek l ad σ hX t n pr hS) cv_X1_60 y66 rfl rfl rfl ⟨by decide, by decide⟩ (Nat.le_of_ble_eq_true rfl) dX1_readTest_4 ?_
  intro r1 τ2 h3
  obtain ⟨eh3, h3⟩ := h3; replace eh3 := eh3.symm; subst eh3
  refine s_istore_n C dX1_readTest_7 (by decide) (Nat.le_of_ble_eq_true rfl) rfl ?_
  show WP E ad 8 [some (.ref (ad 68)), some (.int d), some (.int r1)] [] σ
  have hpk := h3
  refine s_iload_n C dX1_readTest_8 rfl ?_
  refine s_bipush C dX1_readTest_9 (by decide) (fun z4 tz4 => ?_)
  refine s_icmp_eq (tgt := 25) C dX1_readTest_11 (by decide) (fun q5 => ?_) (fun q5 => ?_)
  · have hkn : pl σ.1 < n := by unfold tA at hpk; split at hpk <;> omega
    have hkc : (t (pl σ.1)).toInt = r1.toInt := by unfold tA at hpk; rw [if_pos hkn] at hpk; omega
    refine s_iload_n C dX1_readTest_25 rfl ?_
    refine s_iconst C dX1_readTest_26 (by decide) (fun z6 tz6 => ?_)
    refine s_icmp_lt (tgt := 32) C dX1_readTest_27 (by decide) (fun q7 => ?_) (fun q7 => ?_)
    · refine s_aload_n C dX1_readTest_32 rfl ?_
      refine s_getr (k := 0) (j := 66) C y68 fw_X1_19 rfl dX1_readTest_33 ?_
      refine s_iload_n C dX1_readTest_36 rfl ?_
      refine s_callVI (st := []) C (f_accept l ad σ r1 hX t n pr hS ) cv_X1_50 y66 rfl rfl rfl ⟨by decide, by decide⟩ (Nat.le_of_ble_eq_true rfl) dX1_readTest_37 ?_
      intro r8 τ9 h10
      have hXτ9 := h10.1
      have hSτ9 := h10.2.2.1
      have bh10 := h10.2.2.2.1
      have pτ9 : pl τ9.1 ≤ n := hSτ9.2.2.2.2
      have ah10 : AcF t n (pl σ.1) (pl τ9.1) r1 r8 := h10.2.2.2.2
      obtain ⟨x1h10, x2h10, x3h10⟩ := ah10.1 (by rcases bh10 with q | q; (have q2 := ah10.2 q; omega); exact q)
      refine s_pop C dX1_readTest_40 rfl ?_
      refine s_iload_n C dX1_readTest_41 rfl ?_
      refine s_bipush C dX1_readTest_42 (by decide) (fun z11 tz11 => ?_)
      refine s_icmp_ne (tgt := 75) C dX1_readTest_44 (by decide) (fun q12 => ?_) (fun q12 => ?_)
      · refine s_aload_n C dX1_readTest_75 rfl ?_
        refine s_iload_n C dX1_readTest_76 rfl ?_
        refine s_iconst C dX1_readTest_77 (by decide) (fun z13 tz13 => ?_)
        refine s_iadd C dX1_readTest_78 (by omega) (fun z14 tz14 => ?_)
        refine s_callVI (st := []) C (f_readTest_2 l ad τ9 z14 hXτ9 t n pr hSτ9 (by omega)) cv_X1_57 y68 rfl rfl rfl ⟨by decide, by decide⟩ (Nat.le_of_ble_eq_true rfl) dX1_readTest_79 ?_
        intro r15 τ16 h17
        have hXτ16 := h17.1
        have hSτ16 := h17.2.2.1
        have bh17 := h17.2.2.2.1
        have pτ16 : pl τ16.1 ≤ n := hSτ16.2.2.2.2
        have ah17 : TsF pr t n 2 ((pl σ.1) + 1) (pl τ16.1) r15 := by have q := h17.2.2.2.2; rw [x3h10] at q; exact q
        refine s_if_ne (tgt := 87) C dX1_readTest_82 (by decide) (fun q18 => ?_) (fun q18 => ?_)
        · have q4h17 := (ah17 (false :: List.replicate 1 false) (by simp)).1 (by omega)
          refine s_aload_n C dX1_readTest_87 rfl ?_
          refine s_bipush C dX1_readTest_88 (by decide) (fun z19 tz19 => ?_)
          refine s_callVV (st := []) C (c_X1_add l ad τ16 z19 hXτ16 (pv_op (by omega))) cv_X1_53 y68 rfl rfl rfl ⟨by decide, by decide⟩ (Nat.le_of_ble_eq_true rfl) dX1_readTest_90 ?_
          intro τ21 h22
          have hXτ21 := h22.1
          have eh22 : τ21.1 66 1 = τ16.1 66 1 := h22.2.1.f 66 1 (by decide) (by decide)
          have kτ21 : pl τ21.1 = (pl τ16.1) := congrArg (fun z : Int32 => z.toInt.toNat) eh22
          have hSτ21 : TS t n pr τ21.1 := hSτ16.go h22.2.1 (by decide) (by decide) (by rw [eh22]; have := hSτ16.2.2.2.1; omega) (by rw [eh22]; have := hSτ16.2.2.2; omega)
          have pτ21 : pl τ21.1 ≤ n := hSτ21.2.2.2.2
          skip
          refine s_iconst C dX1_readTest_93 (by decide) (fun z23 tz23 => ?_)
          exact s_zret C (by omega) X dX1_readTest_94 ⟨hXτ21, (Fr.tr (Fr.tr (Fr.tr Fr.rf (Fr.mo h10.2.1 (by decide) (by decide))) (Fr.mo h17.2.1 (by decide) (by decide))) (Fr.mo h22.2.1 (by decide) (by decide))), hSτ21, by omega, (by rw [kτ21]; exact (fun o ho => by have q5 := (ah17 (false :: o) (by rw [List.length_cons]; omega)).1 (by omega); exact ⟨fun _ => ⟨by rw [A_open x1h10 (by omega), if_neg (by omega), decide_eq_false (show ¬ (t (pl σ.1)).toInt = 40 by omega)]; rw [q5.1, A_not], by omega⟩, fun q => by omega⟩))⟩
        · skip
          refine s_iconst C dX1_readTest_85 (by decide) (fun z24 tz24 => ?_)
          exact s_zret C (by omega) X dX1_readTest_86 ⟨hXτ16, (Fr.tr (Fr.tr Fr.rf (Fr.mo h10.2.1 (by decide) (by decide))) (Fr.mo h17.2.1 (by decide) (by decide))), hSτ16, by omega, (fun o ho => ⟨fun q => by omega, fun _ => by rw [A_open x1h10 (by omega), if_neg (by omega), decide_eq_false (show ¬ (t (pl σ.1)).toInt = 40 by omega)]; exact (ah17 (false :: o) (by rw [List.length_cons]; omega)).2 (by omega)⟩)⟩
      · refine s_aload_n C dX1_readTest_47 rfl ?_
        refine s_iload_n C dX1_readTest_48 rfl ?_
        refine s_iconst C dX1_readTest_49 (by decide) (fun z25 tz25 => ?_)
        refine s_iadd C dX1_readTest_50 (by omega) (fun z26 tz26 => ?_)
        refine s_callVI (st := []) C (f_readCondition_2 l ad τ9 z26 hXτ9 t n pr hSτ9 (by omega)) cv_X1_68 y68 rfl rfl rfl ⟨by decide, by decide⟩ (Nat.le_of_ble_eq_true rfl) dX1_readTest_51 ?_
        intro r27 τ28 h29
        have hXτ28 := h29.1
        have hSτ28 := h29.2.2.1
        have bh29 := h29.2.2.2.1
        have pτ28 : pl τ28.1 ≤ n := hSτ28.2.2.2.2
        have ah29 : CoF pr t n 2 ((pl σ.1) + 1) (pl τ28.1) r27 := by have q := h29.2.2.2.2; rw [x3h10] at q; exact q
        refine s_if_eq (tgt := 73) C dX1_readTest_54 (by decide) (fun q30 => ?_) (fun q30 => ?_)
        · refine s_iconst C dX1_readTest_73 (by decide) (fun z31 tz31 => ?_)
          exact s_zret C (by omega) X dX1_readTest_74 ⟨hXτ28, (Fr.tr (Fr.tr Fr.rf (Fr.mo h10.2.1 (by decide) (by decide))) (Fr.mo h29.2.1 (by decide) (by decide))), hSτ28, by omega, (fun o ho => ⟨fun q => by omega, fun _ => by rw [A_open x1h10 (by omega), if_neg (by omega), decide_eq_true (show (t (pl σ.1)).toInt = 40 by omega)]; exact (ah29 (true :: o) (by rw [List.length_cons]; omega) rfl).2 (by omega)⟩)⟩
        · have q4h29 := (ah29 (true :: List.replicate 1 false) (by simp) rfl).1 (by omega)
          refine s_aload_n C dX1_readTest_57 rfl ?_
          refine s_getr (k := 0) (j := 66) C y68 fw_X1_19 rfl dX1_readTest_58 ?_
          refine s_bipush C dX1_readTest_61 (by decide) (fun z32 tz32 => ?_)
          refine s_callVI (st := []) C (f_accept l ad τ28 z32 hXτ28 t n pr hSτ28 ) cv_X1_50 y66 rfl rfl rfl ⟨by decide, by decide⟩ (Nat.le_of_ble_eq_true rfl) dX1_readTest_63 ?_
          intro r33 τ34 h35
          have hXτ34 := h35.1
          have hSτ34 := h35.2.2.1
          have bh35 := h35.2.2.2.1
          have pτ34 : pl τ34.1 ≤ n := hSτ34.2.2.2.2
          have ah35 : AcF t n (pl τ28.1) (pl τ34.1) z32 r33 := h35.2.2.2.2
          refine s_if_eq (tgt := 73) C dX1_readTest_66 (by decide) (fun q36 => ?_) (fun q36 => ?_)
          · obtain ⟨y1h35, y2h35⟩ := ah35.2 (by omega)
            refine s_iconst C dX1_readTest_73 (by decide) (fun z37 tz37 => ?_)
            exact s_zret C (by omega) X dX1_readTest_74 ⟨hXτ34, (Fr.tr (Fr.tr (Fr.tr Fr.rf (Fr.mo h10.2.1 (by decide) (by decide))) (Fr.mo h29.2.1 (by decide) (by decide))) (Fr.mo h35.2.1 (by decide) (by decide))), hSτ34, by omega, (by rw [y2h35]; exact (fun o ho => by have q5 := (ah29 (true :: o) (by rw [List.length_cons]; omega) rfl).1 (by omega); exact ⟨fun q => by omega, fun _ => by rw [A_open x1h10 (by omega), if_neg (by omega), decide_eq_true (show (t (pl σ.1)).toInt = 40 by omega)]; rw [q5.1, A_stop3 (by omega) q5.2.2 (y1h35.elim Or.inl (fun z => Or.inr (Or.inl (by omega)))) (Or.inr (by simp))]⟩))⟩
          · obtain ⟨x1h35, x2h35, x3h35⟩ := ah35.1 (by omega)
            refine s_iconst C dX1_readTest_69 (by decide) (fun z38 tz38 => ?_)
            refine s_goto (tgt := 74) C dX1_readTest_70 (by decide) ?_
            exact s_zret C (by omega) X dX1_readTest_74 ⟨hXτ34, (Fr.tr (Fr.tr (Fr.tr Fr.rf (Fr.mo h10.2.1 (by decide) (by decide))) (Fr.mo h29.2.1 (by decide) (by decide))) (Fr.mo h35.2.1 (by decide) (by decide))), hSτ34, by omega, (by rw [x3h35]; exact (fun o ho => by have q5 := (ah29 (true :: o) (by rw [List.length_cons]; omega) rfl).1 (by omega); exact ⟨fun _ => ⟨by rw [A_open x1h10 (by omega), if_neg (by omega), decide_eq_true (show (t (pl σ.1)).toInt = 40 by omega)]; rw [q5.1, A_close x1h35 (by omega)], by omega⟩, fun q => by omega⟩))⟩
    · omega
  · refine s_iload_n C dX1_readTest_14 rfl ?_
    refine s_bipush C dX1_readTest_15 (by decide) (fun z39 tz39 => ?_)
    refine s_icmp_eq (tgt := 25) C dX1_readTest_17 (by decide) (fun q40 => ?_) (fun q40 => ?_)
    · have hkn : pl σ.1 < n := by unfold tA at hpk; split at hpk <;> omega
      have hkc : (t (pl σ.1)).toInt = r1.toInt := by unfold tA at hpk; rw [if_pos hkn] at hpk; omega
      refine s_iload_n C dX1_readTest_25 rfl ?_
      refine s_iconst C dX1_readTest_26 (by decide) (fun z41 tz41 => ?_)
      refine s_icmp_lt (tgt := 32) C dX1_readTest_27 (by decide) (fun q42 => ?_) (fun q42 => ?_)
      · refine s_aload_n C dX1_readTest_32 rfl ?_
        refine s_getr (k := 0) (j := 66) C y68 fw_X1_19 rfl dX1_readTest_33 ?_
        refine s_iload_n C dX1_readTest_36 rfl ?_
        refine s_callVI (st := []) C (f_accept l ad σ r1 hX t n pr hS ) cv_X1_50 y66 rfl rfl rfl ⟨by decide, by decide⟩ (Nat.le_of_ble_eq_true rfl) dX1_readTest_37 ?_
        intro r43 τ44 h45
        have hXτ44 := h45.1
        have hSτ44 := h45.2.2.1
        have bh45 := h45.2.2.2.1
        have pτ44 : pl τ44.1 ≤ n := hSτ44.2.2.2.2
        have ah45 : AcF t n (pl σ.1) (pl τ44.1) r1 r43 := h45.2.2.2.2
        obtain ⟨x1h45, x2h45, x3h45⟩ := ah45.1 (by rcases bh45 with q | q; (have q2 := ah45.2 q; omega); exact q)
        refine s_pop C dX1_readTest_40 rfl ?_
        refine s_iload_n C dX1_readTest_41 rfl ?_
        refine s_bipush C dX1_readTest_42 (by decide) (fun z46 tz46 => ?_)
        refine s_icmp_ne (tgt := 75) C dX1_readTest_44 (by decide) (fun q47 => ?_) (fun q47 => ?_)
        · refine s_aload_n C dX1_readTest_75 rfl ?_
          refine s_iload_n C dX1_readTest_76 rfl ?_
          refine s_iconst C dX1_readTest_77 (by decide) (fun z48 tz48 => ?_)
          refine s_iadd C dX1_readTest_78 (by omega) (fun z49 tz49 => ?_)
          refine s_callVI (st := []) C (f_readTest_2 l ad τ44 z49 hXτ44 t n pr hSτ44 (by omega)) cv_X1_57 y68 rfl rfl rfl ⟨by decide, by decide⟩ (Nat.le_of_ble_eq_true rfl) dX1_readTest_79 ?_
          intro r50 τ51 h52
          have hXτ51 := h52.1
          have hSτ51 := h52.2.2.1
          have bh52 := h52.2.2.2.1
          have pτ51 : pl τ51.1 ≤ n := hSτ51.2.2.2.2
          have ah52 : TsF pr t n 2 ((pl σ.1) + 1) (pl τ51.1) r50 := by have q := h52.2.2.2.2; rw [x3h45] at q; exact q
          refine s_if_ne (tgt := 87) C dX1_readTest_82 (by decide) (fun q53 => ?_) (fun q53 => ?_)
          · have q4h52 := (ah52 (false :: List.replicate 1 false) (by simp)).1 (by omega)
            refine s_aload_n C dX1_readTest_87 rfl ?_
            refine s_bipush C dX1_readTest_88 (by decide) (fun z54 tz54 => ?_)
            refine s_callVV (st := []) C (c_X1_add l ad τ51 z54 hXτ51 (pv_op (by omega))) cv_X1_53 y68 rfl rfl rfl ⟨by decide, by decide⟩ (Nat.le_of_ble_eq_true rfl) dX1_readTest_90 ?_
            intro τ56 h57
            have hXτ56 := h57.1
            have eh57 : τ56.1 66 1 = τ51.1 66 1 := h57.2.1.f 66 1 (by decide) (by decide)
            have kτ56 : pl τ56.1 = (pl τ51.1) := congrArg (fun z : Int32 => z.toInt.toNat) eh57
            have hSτ56 : TS t n pr τ56.1 := hSτ51.go h57.2.1 (by decide) (by decide) (by rw [eh57]; have := hSτ51.2.2.2.1; omega) (by rw [eh57]; have := hSτ51.2.2.2; omega)
            have pτ56 : pl τ56.1 ≤ n := hSτ56.2.2.2.2
            skip
            refine s_iconst C dX1_readTest_93 (by decide) (fun z58 tz58 => ?_)
            exact s_zret C (by omega) X dX1_readTest_94 ⟨hXτ56, (Fr.tr (Fr.tr (Fr.tr Fr.rf (Fr.mo h45.2.1 (by decide) (by decide))) (Fr.mo h52.2.1 (by decide) (by decide))) (Fr.mo h57.2.1 (by decide) (by decide))), hSτ56, by omega, (by rw [kτ56]; exact (fun o ho => by have q5 := (ah52 (false :: o) (by rw [List.length_cons]; omega)).1 (by omega); exact ⟨fun _ => ⟨by rw [A_open x1h45 (by omega), if_neg (by omega), decide_eq_false (show ¬ (t (pl σ.1)).toInt = 40 by omega)]; rw [q5.1, A_not], by omega⟩, fun q => by omega⟩))⟩
          · skip
            refine s_iconst C dX1_readTest_85 (by decide) (fun z59 tz59 => ?_)
            exact s_zret C (by omega) X dX1_readTest_86 ⟨hXτ51, (Fr.tr (Fr.tr Fr.rf (Fr.mo h45.2.1 (by decide) (by decide))) (Fr.mo h52.2.1 (by decide) (by decide))), hSτ51, by omega, (fun o ho => ⟨fun q => by omega, fun _ => by rw [A_open x1h45 (by omega), if_neg (by omega), decide_eq_false (show ¬ (t (pl σ.1)).toInt = 40 by omega)]; exact (ah52 (false :: o) (by rw [List.length_cons]; omega)).2 (by omega)⟩)⟩
        · refine s_aload_n C dX1_readTest_47 rfl ?_
          refine s_iload_n C dX1_readTest_48 rfl ?_
          refine s_iconst C dX1_readTest_49 (by decide) (fun z60 tz60 => ?_)
          refine s_iadd C dX1_readTest_50 (by omega) (fun z61 tz61 => ?_)
          refine s_callVI (st := []) C (f_readCondition_2 l ad τ44 z61 hXτ44 t n pr hSτ44 (by omega)) cv_X1_68 y68 rfl rfl rfl ⟨by decide, by decide⟩ (Nat.le_of_ble_eq_true rfl) dX1_readTest_51 ?_
          intro r62 τ63 h64
          have hXτ63 := h64.1
          have hSτ63 := h64.2.2.1
          have bh64 := h64.2.2.2.1
          have pτ63 : pl τ63.1 ≤ n := hSτ63.2.2.2.2
          have ah64 : CoF pr t n 2 ((pl σ.1) + 1) (pl τ63.1) r62 := by have q := h64.2.2.2.2; rw [x3h45] at q; exact q
          refine s_if_eq (tgt := 73) C dX1_readTest_54 (by decide) (fun q65 => ?_) (fun q65 => ?_)
          · refine s_iconst C dX1_readTest_73 (by decide) (fun z66 tz66 => ?_)
            exact s_zret C (by omega) X dX1_readTest_74 ⟨hXτ63, (Fr.tr (Fr.tr Fr.rf (Fr.mo h45.2.1 (by decide) (by decide))) (Fr.mo h64.2.1 (by decide) (by decide))), hSτ63, by omega, (fun o ho => ⟨fun q => by omega, fun _ => by rw [A_open x1h45 (by omega), if_neg (by omega), decide_eq_true (show (t (pl σ.1)).toInt = 40 by omega)]; exact (ah64 (true :: o) (by rw [List.length_cons]; omega) rfl).2 (by omega)⟩)⟩
          · have q4h64 := (ah64 (true :: List.replicate 1 false) (by simp) rfl).1 (by omega)
            refine s_aload_n C dX1_readTest_57 rfl ?_
            refine s_getr (k := 0) (j := 66) C y68 fw_X1_19 rfl dX1_readTest_58 ?_
            refine s_bipush C dX1_readTest_61 (by decide) (fun z67 tz67 => ?_)
            refine s_callVI (st := []) C (f_accept l ad τ63 z67 hXτ63 t n pr hSτ63 ) cv_X1_50 y66 rfl rfl rfl ⟨by decide, by decide⟩ (Nat.le_of_ble_eq_true rfl) dX1_readTest_63 ?_
            intro r68 τ69 h70
            have hXτ69 := h70.1
            have hSτ69 := h70.2.2.1
            have bh70 := h70.2.2.2.1
            have pτ69 : pl τ69.1 ≤ n := hSτ69.2.2.2.2
            have ah70 : AcF t n (pl τ63.1) (pl τ69.1) z67 r68 := h70.2.2.2.2
            refine s_if_eq (tgt := 73) C dX1_readTest_66 (by decide) (fun q71 => ?_) (fun q71 => ?_)
            · obtain ⟨y1h70, y2h70⟩ := ah70.2 (by omega)
              refine s_iconst C dX1_readTest_73 (by decide) (fun z72 tz72 => ?_)
              exact s_zret C (by omega) X dX1_readTest_74 ⟨hXτ69, (Fr.tr (Fr.tr (Fr.tr Fr.rf (Fr.mo h45.2.1 (by decide) (by decide))) (Fr.mo h64.2.1 (by decide) (by decide))) (Fr.mo h70.2.1 (by decide) (by decide))), hSτ69, by omega, (by rw [y2h70]; exact (fun o ho => by have q5 := (ah64 (true :: o) (by rw [List.length_cons]; omega) rfl).1 (by omega); exact ⟨fun q => by omega, fun _ => by rw [A_open x1h45 (by omega), if_neg (by omega), decide_eq_true (show (t (pl σ.1)).toInt = 40 by omega)]; rw [q5.1, A_stop3 (by omega) q5.2.2 (y1h70.elim Or.inl (fun z => Or.inr (Or.inl (by omega)))) (Or.inr (by simp))]⟩))⟩
            · obtain ⟨x1h70, x2h70, x3h70⟩ := ah70.1 (by omega)
              refine s_iconst C dX1_readTest_69 (by decide) (fun z73 tz73 => ?_)
              refine s_goto (tgt := 74) C dX1_readTest_70 (by decide) ?_
              exact s_zret C (by omega) X dX1_readTest_74 ⟨hXτ69, (Fr.tr (Fr.tr (Fr.tr Fr.rf (Fr.mo h45.2.1 (by decide) (by decide))) (Fr.mo h64.2.1 (by decide) (by decide))) (Fr.mo h70.2.1 (by decide) (by decide))), hSτ69, by omega, (by rw [x3h70]; exact (fun o ho => by have q5 := (ah64 (true :: o) (by rw [List.length_cons]; omega) rfl).1 (by omega); exact ⟨fun _ => ⟨by rw [A_open x1h45 (by omega), if_neg (by omega), decide_eq_true (show (t (pl σ.1)).toInt = 40 by omega)]; rw [q5.1, A_close x1h70 (by omega)], by omega⟩, fun q => by omega⟩))⟩
      · omega
    · skip
      have hc : n ≤ pl σ.1 ∨ ¬ ((t (pl σ.1)).toInt = 33 ∨ (t (pl σ.1)).toInt = 40) := by unfold tA at hpk; split at hpk <;> omega
      refine s_aload_n C dX1_readTest_20 rfl ?_
      refine s_callVI (st := []) C (f_readComparison l ad σ  hX t n pr hS ) cv_X1_64 y68 rfl rfl rfl ⟨by decide, by decide⟩ (Nat.le_of_ble_eq_true rfl) dX1_readTest_21 ?_
      intro r74 τ75 h76
      have hXτ75 := h76.1
      have hSτ75 := h76.2.2.1
      have bh76 := h76.2.2.2.1
      have pτ75 : pl τ75.1 ≤ n := hSτ75.2.2.2.2
      have ah76 : CmF pr t n (pl σ.1) (pl τ75.1) r74 := h76.2.2.2.2
      exact s_zret C (by omega) X dX1_readTest_24 ⟨hXτ75, (Fr.tr Fr.rf (Fr.mo h76.2.1 (by decide) (by decide))), hSτ75, by omega, (fun o ho => ah76 hc o)⟩
set_option maxRecDepth 100000 in
theorem L_freadAll_1 (l : Launch) (ad : Nat → Nat) (E : Ev) (σ : Sg) (t : Nat → Int32) (n : Nat) (pr : Int) (d : Int32) (hd : d.toInt = 1) (C : Cx E l (rmk 17) 3 cX1_readAll RX1) (X : Rx E ad (some .boolean) (oI (fun r τ => IX τ.1 ∧ Fr [69] [(66, 1), (68, 2)] σ τ ∧ TS t n pr τ.1 ∧ (r.toInt = 0 ∨ r.toInt = 1) ∧ AlF pr t n 1 (pl σ.1) (pl τ.1) r)))  : ∀ (mm : Nat) (τ : Sg) (z : Int32), (Fr [69] [(66, 1), (68, 2)] σ τ) → (IX τ.1) → (TS t n pr τ.1) → (0 ≤ z.toInt ∧ z.toInt ≤ pl τ.1) → (∀ o : List Bool, o.length = 1 → te o = o → Au pr t n 0 o (pl σ.1) = Au pr t n 3 o (pl τ.1)) → (pl σ.1 < pl τ.1) → (60 - z.toInt).toNat < mm → WP E ad 12 [some (.ref (ad 68)), some (.int d), some (.int z)] [] τ := by
  intro mm
  induction mm with
  | zero => intro τ z kF hXτ hSτ h0 hA hgt hm9; exact absurd hm9 (Nat.not_lt_zero _)
  | succ mm ih =>
    intro τ z kF hXτ hSτ h0 hA hgt hm9
    have hS5 : pl τ.1 ≤ n := hSτ.2.2.2.2
    have hn60 : n ≤ 60 := by have q1 := hXτ.tl; have q2 := hSτ.2.1; omega
    refine s_iload_n C dX1_readAll_12 rfl ?_
    refine s_bipush C dX1_readAll_13 (by decide) (fun z1 tz1 => ?_)
    refine s_icmp_ge (tgt := 52) C dX1_readAll_15 (by decide) (fun q2 => ?_) (fun q2 => ?_)
    · skip
      refine s_iconst C dX1_readAll_52 (by decide) (fun z3 tz3 => ?_)
      exact s_zret C (by omega) X dX1_readAll_53 ⟨hXτ, (Fr.tr Fr.rf (Fr.mo kF (by decide) (by decide))), hSτ, by omega, (fun o ho ht => ⟨fun _ => ⟨hA o ho ht, hgt, by omega⟩, fun q => by omega⟩)⟩
    · refine s_aload_n C dX1_readAll_18 rfl ?_
      refine s_getr (k := 0) (j := 66) C y68 fw_X1_19 rfl dX1_readAll_19 ?_
      refine s_bipush C dX1_readAll_22 (by decide) (fun z4 tz4 => ?_)
      refine s_callVI (st := []) C (f_accept l ad τ z4 hXτ t n pr hSτ ) cv_X1_50 y66 rfl rfl rfl ⟨by decide, by decide⟩ (Nat.le_of_ble_eq_true rfl) dX1_readAll_24 ?_
      intro r5 τ6 h7
      have hXτ6 := h7.1
      have hSτ6 := h7.2.2.1
      have bh7 := h7.2.2.2.1
      have pτ6 : pl τ6.1 ≤ n := hSτ6.2.2.2.2
      have ah7 : AcF t n (pl τ.1) (pl τ6.1) z4 r5 := h7.2.2.2.2
      refine s_if_eq (tgt := 52) C dX1_readAll_27 (by decide) (fun q8 => ?_) (fun q8 => ?_)
      · obtain ⟨y1h7, y2h7⟩ := ah7.2 (by omega)
        skip
        refine s_iconst C dX1_readAll_52 (by decide) (fun z9 tz9 => ?_)
        exact s_zret C (by omega) X dX1_readAll_53 ⟨hXτ6, (Fr.tr (Fr.tr Fr.rf (Fr.mo kF (by decide) (by decide))) (Fr.mo h7.2.1 (by decide) (by decide))), hSτ6, by omega, (by rw [y2h7]; exact (fun o ho ht => ⟨fun _ => ⟨hA o ho ht, hgt, by omega⟩, fun q => by omega⟩))⟩
      · obtain ⟨x1h7, x2h7, x3h7⟩ := ah7.1 (by omega)
        refine s_aload_n C dX1_readAll_30 rfl ?_
        refine s_iload_n C dX1_readAll_31 rfl ?_
        refine s_callVI (st := []) C (f_readTest_1 l ad τ6 d hXτ6 t n pr hSτ6 (by omega)) cv_X1_57 y68 rfl rfl rfl ⟨by decide, by decide⟩ (Nat.le_of_ble_eq_true rfl) dX1_readAll_32 ?_
        intro r10 τ11 h12
        have hXτ11 := h12.1
        have hSτ11 := h12.2.2.1
        have bh12 := h12.2.2.2.1
        have pτ11 : pl τ11.1 ≤ n := hSτ11.2.2.2.2
        have ah12 : TsF pr t n 1 ((pl τ.1) + 1) (pl τ11.1) r10 := by have q := h12.2.2.2.2; rw [x3h7] at q; exact q
        refine s_if_ne (tgt := 40) C dX1_readAll_35 (by decide) (fun q13 => ?_) (fun q13 => ?_)
        · have q4h12 := ((ah12 (List.replicate 1 true) (by simp))).1 (by omega)
          refine s_aload_n C dX1_readAll_40 rfl ?_
          refine s_bipush C dX1_readAll_41 (by decide) (fun z14 tz14 => ?_)
          refine s_callVV (st := []) C (c_X1_add l ad τ11 z14 hXτ11 (pv_op (by omega))) cv_X1_53 y68 rfl rfl rfl ⟨by decide, by decide⟩ (Nat.le_of_ble_eq_true rfl) dX1_readAll_43 ?_
          intro τ16 h17
          have hXτ16 := h17.1
          have eh17 : τ16.1 66 1 = τ11.1 66 1 := h17.2.1.f 66 1 (by decide) (by decide)
          have kτ16 : pl τ16.1 = (pl τ11.1) := congrArg (fun z : Int32 => z.toInt.toNat) eh17
          have hSτ16 : TS t n pr τ16.1 := hSτ11.go h17.2.1 (by decide) (by decide) (by rw [eh17]; have := hSτ11.2.2.2.1; omega) (by rw [eh17]; have := hSτ11.2.2.2; omega)
          have pτ16 : pl τ16.1 ≤ n := hSτ16.2.2.2.2
          refine s_iinc C dX1_readAll_46 rfl (by decide) rfl (by decide) (by omega) (fun z18 tz18 => ?_)
          show WP E ad 49 [some (.ref (ad 68)), some (.int d), some (.int z18)] [] τ16
          refine s_goto (tgt := 12) C dX1_readAll_49 (by decide) ?_
          exact ih τ16 z18 (Fr.tr (Fr.tr (Fr.tr (Fr.tr Fr.rf (Fr.mo kF (by decide) (by decide))) (Fr.mo h7.2.1 (by decide) (by decide))) (Fr.mo h12.2.1 (by decide) (by decide))) (Fr.mo h17.2.1 (by decide) (by decide))) hXτ16 hSτ16 (by omega) (fun o ho ht => by rw [hA o ho ht, A_and x1h7 (by omega) ht, ((ah12 o ho).1 (by omega)).1, kτ16]) (by omega) (by omega)
        · skip
          refine s_iconst C dX1_readAll_38 (by decide) (fun z19 tz19 => ?_)
          exact s_zret C (by omega) X dX1_readAll_39 ⟨hXτ11, (Fr.tr (Fr.tr (Fr.tr Fr.rf (Fr.mo kF (by decide) (by decide))) (Fr.mo h7.2.1 (by decide) (by decide))) (Fr.mo h12.2.1 (by decide) (by decide))), hSτ11, by omega, (fun o ho ht => ⟨fun q => by omega, fun _ => by rw [hA o ho ht, A_and x1h7 (by omega) ht]; exact (ah12 o ho).2 (by omega)⟩)⟩
set_option maxRecDepth 100000 in
theorem f_readAll_1 (l : Launch) (ad : Nat → Nat) (σ : Sg) (d : Int32) (hX : IX σ.1) (t : Nat → Int32) (n : Nat) (pr : Int) (hS : TS t n pr σ.1) (hd : d.toInt = 1) : Mt l yX1_readAll cX1_readAll 3 (some .boolean) 17 ad σ [.ref (ad 68), .int d] (oI (fun r τ => IX τ.1 ∧ Fr [69] [(66, 1), (68, 2)] σ τ ∧ TS t n pr τ.1 ∧ (r.toInt = 0 ∨ r.toInt = 1) ∧ AlF pr t n 1 (pl σ.1) (pl τ.1) r)) := by
  have hS5 := hS.2.2.2.2
  have hn60 : n ≤ 60 := by have q1 := hX.tl; have q2 := hS.2.1; omega
  refine Mt_intro (by decide +kernel) (by simp [lg_sl, Value.category]) (fun E C X => ?_)
  show WP E ad 0 [some (.ref (ad 68)), some (.int d), none] [] σ
  refine s_aload_n C dX1_readAll_0 rfl ?_
  refine s_iload_n C dX1_readAll_1 rfl ?_
  refine s_callVI (st := []) C (f_readTest_1 l ad σ d hX t n pr hS (by omega)) cv_X1_57 y68 rfl rfl rfl ⟨by decide, by decide⟩ (Nat.le_of_ble_eq_true rfl) dX1_readAll_2 ?_
  intro r1 τ2 h3
  have hXτ2 := h3.1
  have hSτ2 := h3.2.2.1
  have bh3 := h3.2.2.2.1
  have pτ2 : pl τ2.1 ≤ n := hSτ2.2.2.2.2
  have ah3 : TsF pr t n 1 (pl σ.1) (pl τ2.1) r1 := h3.2.2.2.2
  refine s_if_ne (tgt := 10) C dX1_readAll_5 (by decide) (fun q4 => ?_) (fun q4 => ?_)
  · have q4h3 := ((ah3 (List.replicate 1 true) (by simp))).1 (by omega)
    refine s_iconst C dX1_readAll_10 (by decide) (fun z5 tz5 => ?_)
    refine s_istore_n C dX1_readAll_11 (by decide) (Nat.le_of_ble_eq_true rfl) rfl ?_
    show WP E ad 12 [some (.ref (ad 68)), some (.int d), some (.int z5)] [] τ2
    exact L_freadAll_1 l ad E σ t n pr d hd C X 100 τ2 z5 (Fr.tr Fr.rf (Fr.mo h3.2.1 (by decide) (by decide))) hXτ2 hSτ2 (by omega) (fun o ho ht => ((ah3 o ho).1 (by omega)).1) (by omega) (by omega)
  · refine s_iconst C dX1_readAll_8 (by decide) (fun z6 tz6 => ?_)
    exact s_zret C (by omega) X dX1_readAll_9 ⟨hXτ2, (Fr.tr Fr.rf (Fr.mo h3.2.1 (by decide) (by decide))), hSτ2, by omega, (fun o ho ht => ⟨fun q => by omega, fun _ => (ah3 o ho).2 (by omega)⟩)⟩
set_option maxRecDepth 100000 in
theorem L_freadCondition_1 (l : Launch) (ad : Nat → Nat) (E : Ev) (σ : Sg) (t : Nat → Int32) (n : Nat) (pr : Int) (d : Int32) (hd : d.toInt = 1) (C : Cx E l (rmk 18) 3 cX1_readCondition RX1) (X : Rx E ad (some .boolean) (oI (fun r τ => IX τ.1 ∧ Fr [69] [(66, 1), (68, 2)] σ τ ∧ TS t n pr τ.1 ∧ (r.toInt = 0 ∨ r.toInt = 1) ∧ CoF pr t n 1 (pl σ.1) (pl τ.1) r)))  : ∀ (mm : Nat) (τ : Sg) (z : Int32), (Fr [69] [(66, 1), (68, 2)] σ τ) → (IX τ.1) → (TS t n pr τ.1) → (0 ≤ z.toInt ∧ z.toInt ≤ pl τ.1) → (∀ o : List Bool, o.length = 1 → te o = o → Au pr t n 0 o (pl σ.1) = Au pr t n 3 o (pl τ.1)) → (pl σ.1 < pl τ.1) → ((n ≤ pl τ.1 ∨ ¬ (t (pl τ.1)).toInt = 38)) → (60 - z.toInt).toNat < mm → WP E ad 12 [some (.ref (ad 68)), some (.int d), some (.int z)] [] τ := by
  intro mm
  induction mm with
  | zero => intro τ z kF hXτ hSτ h0 hA hgt hst hm9; exact absurd hm9 (Nat.not_lt_zero _)
  | succ mm ih =>
    intro τ z kF hXτ hSτ h0 hA hgt hst hm9
    have hS5 : pl τ.1 ≤ n := hSτ.2.2.2.2
    have hn60 : n ≤ 60 := by have q1 := hXτ.tl; have q2 := hSτ.2.1; omega
    refine s_iload_n C dX1_readCondition_12 rfl ?_
    refine s_bipush C dX1_readCondition_13 (by decide) (fun z1 tz1 => ?_)
    refine s_icmp_ge (tgt := 52) C dX1_readCondition_15 (by decide) (fun q2 => ?_) (fun q2 => ?_)
    · skip
      refine s_iconst C dX1_readCondition_52 (by decide) (fun z3 tz3 => ?_)
      exact s_zret C (by omega) X dX1_readCondition_53 ⟨hXτ, (Fr.tr Fr.rf (Fr.mo kF (by decide) (by decide))), hSτ, by omega, (fun o ho ht => ⟨fun _ => ⟨hA o ho ht, hgt, by omega⟩, fun q => by omega⟩)⟩
    · refine s_aload_n C dX1_readCondition_18 rfl ?_
      refine s_getr (k := 0) (j := 66) C y68 fw_X1_19 rfl dX1_readCondition_19 ?_
      refine s_bipush C dX1_readCondition_22 (by decide) (fun z4 tz4 => ?_)
      refine s_callVI (st := []) C (f_accept l ad τ z4 hXτ t n pr hSτ ) cv_X1_50 y66 rfl rfl rfl ⟨by decide, by decide⟩ (Nat.le_of_ble_eq_true rfl) dX1_readCondition_24 ?_
      intro r5 τ6 h7
      have hXτ6 := h7.1
      have hSτ6 := h7.2.2.1
      have bh7 := h7.2.2.2.1
      have pτ6 : pl τ6.1 ≤ n := hSτ6.2.2.2.2
      have ah7 : AcF t n (pl τ.1) (pl τ6.1) z4 r5 := h7.2.2.2.2
      refine s_if_eq (tgt := 52) C dX1_readCondition_27 (by decide) (fun q8 => ?_) (fun q8 => ?_)
      · obtain ⟨y1h7, y2h7⟩ := ah7.2 (by omega)
        skip
        refine s_iconst C dX1_readCondition_52 (by decide) (fun z9 tz9 => ?_)
        exact s_zret C (by omega) X dX1_readCondition_53 ⟨hXτ6, (Fr.tr (Fr.tr Fr.rf (Fr.mo kF (by decide) (by decide))) (Fr.mo h7.2.1 (by decide) (by decide))), hSτ6, by omega, (by rw [y2h7]; exact (fun o ho ht => ⟨fun _ => ⟨hA o ho ht, hgt, by omega⟩, fun q => by omega⟩))⟩
      · obtain ⟨x1h7, x2h7, x3h7⟩ := ah7.1 (by omega)
        refine s_aload_n C dX1_readCondition_30 rfl ?_
        refine s_iload_n C dX1_readCondition_31 rfl ?_
        refine s_callVI (st := []) C (f_readAll_1 l ad τ6 d hXτ6 t n pr hSτ6 (by omega)) cv_X1_46 y68 rfl rfl rfl ⟨by decide, by decide⟩ (Nat.le_of_ble_eq_true rfl) dX1_readCondition_32 ?_
        intro r10 τ11 h12
        have hXτ11 := h12.1
        have hSτ11 := h12.2.2.1
        have bh12 := h12.2.2.2.1
        have pτ11 : pl τ11.1 ≤ n := hSτ11.2.2.2.2
        have ah12 : AlF pr t n 1 ((pl τ.1) + 1) (pl τ11.1) r10 := by have q := h12.2.2.2.2; rw [x3h7] at q; exact q
        refine s_if_ne (tgt := 40) C dX1_readCondition_35 (by decide) (fun q13 => ?_) (fun q13 => ?_)
        · have q4h12 := ((ah12 (List.replicate 1 true) (by simp) rfl)).1 (by omega)
          refine s_aload_n C dX1_readCondition_40 rfl ?_
          refine s_bipush C dX1_readCondition_41 (by decide) (fun z14 tz14 => ?_)
          refine s_callVV (st := []) C (c_X1_add l ad τ11 z14 hXτ11 (pv_op (by omega))) cv_X1_53 y68 rfl rfl rfl ⟨by decide, by decide⟩ (Nat.le_of_ble_eq_true rfl) dX1_readCondition_43 ?_
          intro τ16 h17
          have hXτ16 := h17.1
          have eh17 : τ16.1 66 1 = τ11.1 66 1 := h17.2.1.f 66 1 (by decide) (by decide)
          have kτ16 : pl τ16.1 = (pl τ11.1) := congrArg (fun z : Int32 => z.toInt.toNat) eh17
          have hSτ16 : TS t n pr τ16.1 := hSτ11.go h17.2.1 (by decide) (by decide) (by rw [eh17]; have := hSτ11.2.2.2.1; omega) (by rw [eh17]; have := hSτ11.2.2.2; omega)
          have pτ16 : pl τ16.1 ≤ n := hSτ16.2.2.2.2
          refine s_iinc C dX1_readCondition_46 rfl (by decide) rfl (by decide) (by omega) (fun z18 tz18 => ?_)
          show WP E ad 49 [some (.ref (ad 68)), some (.int d), some (.int z18)] [] τ16
          refine s_goto (tgt := 12) C dX1_readCondition_49 (by decide) ?_
          exact ih τ16 z18 (Fr.tr (Fr.tr (Fr.tr (Fr.tr Fr.rf (Fr.mo kF (by decide) (by decide))) (Fr.mo h7.2.1 (by decide) (by decide))) (Fr.mo h12.2.1 (by decide) (by decide))) (Fr.mo h17.2.1 (by decide) (by decide))) hXτ16 hSτ16 (by omega) (fun o ho ht => by rw [hA o ho ht, A_and x1h7 (by omega) ht, ((ah12 o ho ht).1 (by omega)).1, kτ16]) (by omega) (by rw [kτ16]; omega) (by omega)
        · skip
          refine s_iconst C dX1_readCondition_38 (by decide) (fun z19 tz19 => ?_)
          exact s_zret C (by omega) X dX1_readCondition_39 ⟨hXτ11, (Fr.tr (Fr.tr (Fr.tr Fr.rf (Fr.mo kF (by decide) (by decide))) (Fr.mo h7.2.1 (by decide) (by decide))) (Fr.mo h12.2.1 (by decide) (by decide))), hSτ11, by omega, (fun o ho ht => ⟨fun q => by omega, fun _ => by rw [hA o ho ht, A_and x1h7 (by omega) ht]; exact (ah12 o ho ht).2 (by omega)⟩)⟩
set_option maxRecDepth 100000 in
theorem f_readCondition_1 (l : Launch) (ad : Nat → Nat) (σ : Sg) (d : Int32) (hX : IX σ.1) (t : Nat → Int32) (n : Nat) (pr : Int) (hS : TS t n pr σ.1) (hd : d.toInt = 1) : Mt l yX1_readCondition cX1_readCondition 3 (some .boolean) 18 ad σ [.ref (ad 68), .int d] (oI (fun r τ => IX τ.1 ∧ Fr [69] [(66, 1), (68, 2)] σ τ ∧ TS t n pr τ.1 ∧ (r.toInt = 0 ∨ r.toInt = 1) ∧ CoF pr t n 1 (pl σ.1) (pl τ.1) r)) := by
  have hS5 := hS.2.2.2.2
  have hn60 : n ≤ 60 := by have q1 := hX.tl; have q2 := hS.2.1; omega
  refine Mt_intro (by decide +kernel) (by simp [lg_sl, Value.category]) (fun E C X => ?_)
  show WP E ad 0 [some (.ref (ad 68)), some (.int d), none] [] σ
  refine s_aload_n C dX1_readCondition_0 rfl ?_
  refine s_iload_n C dX1_readCondition_1 rfl ?_
  refine s_callVI (st := []) C (f_readAll_1 l ad σ d hX t n pr hS (by omega)) cv_X1_46 y68 rfl rfl rfl ⟨by decide, by decide⟩ (Nat.le_of_ble_eq_true rfl) dX1_readCondition_2 ?_
  intro r1 τ2 h3
  have hXτ2 := h3.1
  have hSτ2 := h3.2.2.1
  have bh3 := h3.2.2.2.1
  have pτ2 : pl τ2.1 ≤ n := hSτ2.2.2.2.2
  have ah3 : AlF pr t n 1 (pl σ.1) (pl τ2.1) r1 := h3.2.2.2.2
  refine s_if_ne (tgt := 10) C dX1_readCondition_5 (by decide) (fun q4 => ?_) (fun q4 => ?_)
  · have q4h3 := ((ah3 (List.replicate 1 true) (by simp) rfl)).1 (by omega)
    refine s_iconst C dX1_readCondition_10 (by decide) (fun z5 tz5 => ?_)
    refine s_istore_n C dX1_readCondition_11 (by decide) (Nat.le_of_ble_eq_true rfl) rfl ?_
    show WP E ad 12 [some (.ref (ad 68)), some (.int d), some (.int z5)] [] τ2
    exact L_freadCondition_1 l ad E σ t n pr d hd C X 100 τ2 z5 (Fr.tr Fr.rf (Fr.mo h3.2.1 (by decide) (by decide))) hXτ2 hSτ2 (by omega) (fun o ho ht => ((ah3 o ho ht).1 (by omega)).1) (by omega) q4h3.2.2 (by omega)
  · refine s_iconst C dX1_readCondition_8 (by decide) (fun z6 tz6 => ?_)
    exact s_zret C (by omega) X dX1_readCondition_9 ⟨hXτ2, (Fr.tr Fr.rf (Fr.mo h3.2.1 (by decide) (by decide))), hSτ2, by omega, (fun o ho ht => ⟨fun q => by omega, fun _ => (ah3 o ho ht).2 (by omega)⟩)⟩
set_option maxRecDepth 100000 in
theorem f_readTest_0 (l : Launch) (ad : Nat → Nat) (σ : Sg) (d : Int32) (hX : IX σ.1) (t : Nat → Int32) (n : Nat) (pr : Int) (hS : TS t n pr σ.1) (hd : d.toInt = 0) : Mt l yX1_readTest cX1_readTest 3 (some .boolean) 19 ad σ [.ref (ad 68), .int d] (oI (fun r τ => IX τ.1 ∧ Fr [69] [(66, 1), (68, 2)] σ τ ∧ TS t n pr τ.1 ∧ (r.toInt = 0 ∨ r.toInt = 1) ∧ TsF pr t n 0 (pl σ.1) (pl τ.1) r)) := by
  have hS5 := hS.2.2.2.2
  refine Mt_intro (by decide +kernel) (by simp [lg_sl, Value.category]) (fun E C X => ?_)
  show WP E ad 0 [some (.ref (ad 68)), some (.int d), none] [] σ
  refine s_aload_n C dX1_readTest_0 rfl ?_
  refine s_getr (k := 0) (j := 66) C y68 fw_X1_19 rfl dX1_readTest_1 ?_
  refine s_callVI (st := []) C (f_peek l ad σ hX t n pr hS) cv_X1_60 y66 rfl rfl rfl ⟨by decide, by decide⟩ (Nat.le_of_ble_eq_true rfl) dX1_readTest_4 ?_
  intro r1 τ2 h3
  obtain ⟨eh3, h3⟩ := h3; replace eh3 := eh3.symm; subst eh3
  refine s_istore_n C dX1_readTest_7 (by decide) (Nat.le_of_ble_eq_true rfl) rfl ?_
  show WP E ad 8 [some (.ref (ad 68)), some (.int d), some (.int r1)] [] σ
  have hpk := h3
  refine s_iload_n C dX1_readTest_8 rfl ?_
  refine s_bipush C dX1_readTest_9 (by decide) (fun z4 tz4 => ?_)
  refine s_icmp_eq (tgt := 25) C dX1_readTest_11 (by decide) (fun q5 => ?_) (fun q5 => ?_)
  · have hkn : pl σ.1 < n := by unfold tA at hpk; split at hpk <;> omega
    have hkc : (t (pl σ.1)).toInt = r1.toInt := by unfold tA at hpk; rw [if_pos hkn] at hpk; omega
    refine s_iload_n C dX1_readTest_25 rfl ?_
    refine s_iconst C dX1_readTest_26 (by decide) (fun z6 tz6 => ?_)
    refine s_icmp_lt (tgt := 32) C dX1_readTest_27 (by decide) (fun q7 => ?_) (fun q7 => ?_)
    · refine s_aload_n C dX1_readTest_32 rfl ?_
      refine s_getr (k := 0) (j := 66) C y68 fw_X1_19 rfl dX1_readTest_33 ?_
      refine s_iload_n C dX1_readTest_36 rfl ?_
      refine s_callVI (st := []) C (f_accept l ad σ r1 hX t n pr hS ) cv_X1_50 y66 rfl rfl rfl ⟨by decide, by decide⟩ (Nat.le_of_ble_eq_true rfl) dX1_readTest_37 ?_
      intro r8 τ9 h10
      have hXτ9 := h10.1
      have hSτ9 := h10.2.2.1
      have bh10 := h10.2.2.2.1
      have pτ9 : pl τ9.1 ≤ n := hSτ9.2.2.2.2
      have ah10 : AcF t n (pl σ.1) (pl τ9.1) r1 r8 := h10.2.2.2.2
      obtain ⟨x1h10, x2h10, x3h10⟩ := ah10.1 (by rcases bh10 with q | q; (have q2 := ah10.2 q; omega); exact q)
      refine s_pop C dX1_readTest_40 rfl ?_
      refine s_iload_n C dX1_readTest_41 rfl ?_
      refine s_bipush C dX1_readTest_42 (by decide) (fun z11 tz11 => ?_)
      refine s_icmp_ne (tgt := 75) C dX1_readTest_44 (by decide) (fun q12 => ?_) (fun q12 => ?_)
      · refine s_aload_n C dX1_readTest_75 rfl ?_
        refine s_iload_n C dX1_readTest_76 rfl ?_
        refine s_iconst C dX1_readTest_77 (by decide) (fun z13 tz13 => ?_)
        refine s_iadd C dX1_readTest_78 (by omega) (fun z14 tz14 => ?_)
        refine s_callVI (st := []) C (f_readTest_1 l ad τ9 z14 hXτ9 t n pr hSτ9 (by omega)) cv_X1_57 y68 rfl rfl rfl ⟨by decide, by decide⟩ (Nat.le_of_ble_eq_true rfl) dX1_readTest_79 ?_
        intro r15 τ16 h17
        have hXτ16 := h17.1
        have hSτ16 := h17.2.2.1
        have bh17 := h17.2.2.2.1
        have pτ16 : pl τ16.1 ≤ n := hSτ16.2.2.2.2
        have ah17 : TsF pr t n 1 ((pl σ.1) + 1) (pl τ16.1) r15 := by have q := h17.2.2.2.2; rw [x3h10] at q; exact q
        refine s_if_ne (tgt := 87) C dX1_readTest_82 (by decide) (fun q18 => ?_) (fun q18 => ?_)
        · have q4h17 := (ah17 (false :: List.replicate 0 false) (by simp)).1 (by omega)
          refine s_aload_n C dX1_readTest_87 rfl ?_
          refine s_bipush C dX1_readTest_88 (by decide) (fun z19 tz19 => ?_)
          refine s_callVV (st := []) C (c_X1_add l ad τ16 z19 hXτ16 (pv_op (by omega))) cv_X1_53 y68 rfl rfl rfl ⟨by decide, by decide⟩ (Nat.le_of_ble_eq_true rfl) dX1_readTest_90 ?_
          intro τ21 h22
          have hXτ21 := h22.1
          have eh22 : τ21.1 66 1 = τ16.1 66 1 := h22.2.1.f 66 1 (by decide) (by decide)
          have kτ21 : pl τ21.1 = (pl τ16.1) := congrArg (fun z : Int32 => z.toInt.toNat) eh22
          have hSτ21 : TS t n pr τ21.1 := hSτ16.go h22.2.1 (by decide) (by decide) (by rw [eh22]; have := hSτ16.2.2.2.1; omega) (by rw [eh22]; have := hSτ16.2.2.2; omega)
          have pτ21 : pl τ21.1 ≤ n := hSτ21.2.2.2.2
          skip
          refine s_iconst C dX1_readTest_93 (by decide) (fun z23 tz23 => ?_)
          exact s_zret C (by omega) X dX1_readTest_94 ⟨hXτ21, (Fr.tr (Fr.tr (Fr.tr Fr.rf (Fr.mo h10.2.1 (by decide) (by decide))) (Fr.mo h17.2.1 (by decide) (by decide))) (Fr.mo h22.2.1 (by decide) (by decide))), hSτ21, by omega, (by rw [kτ21]; exact (fun o ho => by have q5 := (ah17 (false :: o) (by rw [List.length_cons]; omega)).1 (by omega); exact ⟨fun _ => ⟨by rw [A_open x1h10 (by omega), if_neg (by omega), decide_eq_false (show ¬ (t (pl σ.1)).toInt = 40 by omega)]; rw [q5.1, A_not], by omega⟩, fun q => by omega⟩))⟩
        · skip
          refine s_iconst C dX1_readTest_85 (by decide) (fun z24 tz24 => ?_)
          exact s_zret C (by omega) X dX1_readTest_86 ⟨hXτ16, (Fr.tr (Fr.tr Fr.rf (Fr.mo h10.2.1 (by decide) (by decide))) (Fr.mo h17.2.1 (by decide) (by decide))), hSτ16, by omega, (fun o ho => ⟨fun q => by omega, fun _ => by rw [A_open x1h10 (by omega), if_neg (by omega), decide_eq_false (show ¬ (t (pl σ.1)).toInt = 40 by omega)]; exact (ah17 (false :: o) (by rw [List.length_cons]; omega)).2 (by omega)⟩)⟩
      · refine s_aload_n C dX1_readTest_47 rfl ?_
        refine s_iload_n C dX1_readTest_48 rfl ?_
        refine s_iconst C dX1_readTest_49 (by decide) (fun z25 tz25 => ?_)
        refine s_iadd C dX1_readTest_50 (by omega) (fun z26 tz26 => ?_)
        refine s_callVI (st := []) C (f_readCondition_1 l ad τ9 z26 hXτ9 t n pr hSτ9 (by omega)) cv_X1_68 y68 rfl rfl rfl ⟨by decide, by decide⟩ (Nat.le_of_ble_eq_true rfl) dX1_readTest_51 ?_
        intro r27 τ28 h29
        have hXτ28 := h29.1
        have hSτ28 := h29.2.2.1
        have bh29 := h29.2.2.2.1
        have pτ28 : pl τ28.1 ≤ n := hSτ28.2.2.2.2
        have ah29 : CoF pr t n 1 ((pl σ.1) + 1) (pl τ28.1) r27 := by have q := h29.2.2.2.2; rw [x3h10] at q; exact q
        refine s_if_eq (tgt := 73) C dX1_readTest_54 (by decide) (fun q30 => ?_) (fun q30 => ?_)
        · refine s_iconst C dX1_readTest_73 (by decide) (fun z31 tz31 => ?_)
          exact s_zret C (by omega) X dX1_readTest_74 ⟨hXτ28, (Fr.tr (Fr.tr Fr.rf (Fr.mo h10.2.1 (by decide) (by decide))) (Fr.mo h29.2.1 (by decide) (by decide))), hSτ28, by omega, (fun o ho => ⟨fun q => by omega, fun _ => by rw [A_open x1h10 (by omega), if_neg (by omega), decide_eq_true (show (t (pl σ.1)).toInt = 40 by omega)]; exact (ah29 (true :: o) (by rw [List.length_cons]; omega) rfl).2 (by omega)⟩)⟩
        · have q4h29 := (ah29 (true :: List.replicate 0 false) (by simp) rfl).1 (by omega)
          refine s_aload_n C dX1_readTest_57 rfl ?_
          refine s_getr (k := 0) (j := 66) C y68 fw_X1_19 rfl dX1_readTest_58 ?_
          refine s_bipush C dX1_readTest_61 (by decide) (fun z32 tz32 => ?_)
          refine s_callVI (st := []) C (f_accept l ad τ28 z32 hXτ28 t n pr hSτ28 ) cv_X1_50 y66 rfl rfl rfl ⟨by decide, by decide⟩ (Nat.le_of_ble_eq_true rfl) dX1_readTest_63 ?_
          intro r33 τ34 h35
          have hXτ34 := h35.1
          have hSτ34 := h35.2.2.1
          have bh35 := h35.2.2.2.1
          have pτ34 : pl τ34.1 ≤ n := hSτ34.2.2.2.2
          have ah35 : AcF t n (pl τ28.1) (pl τ34.1) z32 r33 := h35.2.2.2.2
          refine s_if_eq (tgt := 73) C dX1_readTest_66 (by decide) (fun q36 => ?_) (fun q36 => ?_)
          · obtain ⟨y1h35, y2h35⟩ := ah35.2 (by omega)
            refine s_iconst C dX1_readTest_73 (by decide) (fun z37 tz37 => ?_)
            exact s_zret C (by omega) X dX1_readTest_74 ⟨hXτ34, (Fr.tr (Fr.tr (Fr.tr Fr.rf (Fr.mo h10.2.1 (by decide) (by decide))) (Fr.mo h29.2.1 (by decide) (by decide))) (Fr.mo h35.2.1 (by decide) (by decide))), hSτ34, by omega, (by rw [y2h35]; exact (fun o ho => by have q5 := (ah29 (true :: o) (by rw [List.length_cons]; omega) rfl).1 (by omega); exact ⟨fun q => by omega, fun _ => by rw [A_open x1h10 (by omega), if_neg (by omega), decide_eq_true (show (t (pl σ.1)).toInt = 40 by omega)]; rw [q5.1, A_stop3 (by omega) q5.2.2 (y1h35.elim Or.inl (fun z => Or.inr (Or.inl (by omega)))) (Or.inr (by simp))]⟩))⟩
          · obtain ⟨x1h35, x2h35, x3h35⟩ := ah35.1 (by omega)
            refine s_iconst C dX1_readTest_69 (by decide) (fun z38 tz38 => ?_)
            refine s_goto (tgt := 74) C dX1_readTest_70 (by decide) ?_
            exact s_zret C (by omega) X dX1_readTest_74 ⟨hXτ34, (Fr.tr (Fr.tr (Fr.tr Fr.rf (Fr.mo h10.2.1 (by decide) (by decide))) (Fr.mo h29.2.1 (by decide) (by decide))) (Fr.mo h35.2.1 (by decide) (by decide))), hSτ34, by omega, (by rw [x3h35]; exact (fun o ho => by have q5 := (ah29 (true :: o) (by rw [List.length_cons]; omega) rfl).1 (by omega); exact ⟨fun _ => ⟨by rw [A_open x1h10 (by omega), if_neg (by omega), decide_eq_true (show (t (pl σ.1)).toInt = 40 by omega)]; rw [q5.1, A_close x1h35 (by omega)], by omega⟩, fun q => by omega⟩))⟩
    · omega
  · refine s_iload_n C dX1_readTest_14 rfl ?_
    refine s_bipush C dX1_readTest_15 (by decide) (fun z39 tz39 => ?_)
    refine s_icmp_eq (tgt := 25) C dX1_readTest_17 (by decide) (fun q40 => ?_) (fun q40 => ?_)
    · have hkn : pl σ.1 < n := by unfold tA at hpk; split at hpk <;> omega
      have hkc : (t (pl σ.1)).toInt = r1.toInt := by unfold tA at hpk; rw [if_pos hkn] at hpk; omega
      refine s_iload_n C dX1_readTest_25 rfl ?_
      refine s_iconst C dX1_readTest_26 (by decide) (fun z41 tz41 => ?_)
      refine s_icmp_lt (tgt := 32) C dX1_readTest_27 (by decide) (fun q42 => ?_) (fun q42 => ?_)
      · refine s_aload_n C dX1_readTest_32 rfl ?_
        refine s_getr (k := 0) (j := 66) C y68 fw_X1_19 rfl dX1_readTest_33 ?_
        refine s_iload_n C dX1_readTest_36 rfl ?_
        refine s_callVI (st := []) C (f_accept l ad σ r1 hX t n pr hS ) cv_X1_50 y66 rfl rfl rfl ⟨by decide, by decide⟩ (Nat.le_of_ble_eq_true rfl) dX1_readTest_37 ?_
        intro r43 τ44 h45
        have hXτ44 := h45.1
        have hSτ44 := h45.2.2.1
        have bh45 := h45.2.2.2.1
        have pτ44 : pl τ44.1 ≤ n := hSτ44.2.2.2.2
        have ah45 : AcF t n (pl σ.1) (pl τ44.1) r1 r43 := h45.2.2.2.2
        obtain ⟨x1h45, x2h45, x3h45⟩ := ah45.1 (by rcases bh45 with q | q; (have q2 := ah45.2 q; omega); exact q)
        refine s_pop C dX1_readTest_40 rfl ?_
        refine s_iload_n C dX1_readTest_41 rfl ?_
        refine s_bipush C dX1_readTest_42 (by decide) (fun z46 tz46 => ?_)
        refine s_icmp_ne (tgt := 75) C dX1_readTest_44 (by decide) (fun q47 => ?_) (fun q47 => ?_)
        · refine s_aload_n C dX1_readTest_75 rfl ?_
          refine s_iload_n C dX1_readTest_76 rfl ?_
          refine s_iconst C dX1_readTest_77 (by decide) (fun z48 tz48 => ?_)
          refine s_iadd C dX1_readTest_78 (by omega) (fun z49 tz49 => ?_)
          refine s_callVI (st := []) C (f_readTest_1 l ad τ44 z49 hXτ44 t n pr hSτ44 (by omega)) cv_X1_57 y68 rfl rfl rfl ⟨by decide, by decide⟩ (Nat.le_of_ble_eq_true rfl) dX1_readTest_79 ?_
          intro r50 τ51 h52
          have hXτ51 := h52.1
          have hSτ51 := h52.2.2.1
          have bh52 := h52.2.2.2.1
          have pτ51 : pl τ51.1 ≤ n := hSτ51.2.2.2.2
          have ah52 : TsF pr t n 1 ((pl σ.1) + 1) (pl τ51.1) r50 := by have q := h52.2.2.2.2; rw [x3h45] at q; exact q
          refine s_if_ne (tgt := 87) C dX1_readTest_82 (by decide) (fun q53 => ?_) (fun q53 => ?_)
          · have q4h52 := (ah52 (false :: List.replicate 0 false) (by simp)).1 (by omega)
            refine s_aload_n C dX1_readTest_87 rfl ?_
            refine s_bipush C dX1_readTest_88 (by decide) (fun z54 tz54 => ?_)
            refine s_callVV (st := []) C (c_X1_add l ad τ51 z54 hXτ51 (pv_op (by omega))) cv_X1_53 y68 rfl rfl rfl ⟨by decide, by decide⟩ (Nat.le_of_ble_eq_true rfl) dX1_readTest_90 ?_
            intro τ56 h57
            have hXτ56 := h57.1
            have eh57 : τ56.1 66 1 = τ51.1 66 1 := h57.2.1.f 66 1 (by decide) (by decide)
            have kτ56 : pl τ56.1 = (pl τ51.1) := congrArg (fun z : Int32 => z.toInt.toNat) eh57
            have hSτ56 : TS t n pr τ56.1 := hSτ51.go h57.2.1 (by decide) (by decide) (by rw [eh57]; have := hSτ51.2.2.2.1; omega) (by rw [eh57]; have := hSτ51.2.2.2; omega)
            have pτ56 : pl τ56.1 ≤ n := hSτ56.2.2.2.2
            skip
            refine s_iconst C dX1_readTest_93 (by decide) (fun z58 tz58 => ?_)
            exact s_zret C (by omega) X dX1_readTest_94 ⟨hXτ56, (Fr.tr (Fr.tr (Fr.tr Fr.rf (Fr.mo h45.2.1 (by decide) (by decide))) (Fr.mo h52.2.1 (by decide) (by decide))) (Fr.mo h57.2.1 (by decide) (by decide))), hSτ56, by omega, (by rw [kτ56]; exact (fun o ho => by have q5 := (ah52 (false :: o) (by rw [List.length_cons]; omega)).1 (by omega); exact ⟨fun _ => ⟨by rw [A_open x1h45 (by omega), if_neg (by omega), decide_eq_false (show ¬ (t (pl σ.1)).toInt = 40 by omega)]; rw [q5.1, A_not], by omega⟩, fun q => by omega⟩))⟩
          · skip
            refine s_iconst C dX1_readTest_85 (by decide) (fun z59 tz59 => ?_)
            exact s_zret C (by omega) X dX1_readTest_86 ⟨hXτ51, (Fr.tr (Fr.tr Fr.rf (Fr.mo h45.2.1 (by decide) (by decide))) (Fr.mo h52.2.1 (by decide) (by decide))), hSτ51, by omega, (fun o ho => ⟨fun q => by omega, fun _ => by rw [A_open x1h45 (by omega), if_neg (by omega), decide_eq_false (show ¬ (t (pl σ.1)).toInt = 40 by omega)]; exact (ah52 (false :: o) (by rw [List.length_cons]; omega)).2 (by omega)⟩)⟩
        · refine s_aload_n C dX1_readTest_47 rfl ?_
          refine s_iload_n C dX1_readTest_48 rfl ?_
          refine s_iconst C dX1_readTest_49 (by decide) (fun z60 tz60 => ?_)
          refine s_iadd C dX1_readTest_50 (by omega) (fun z61 tz61 => ?_)
          refine s_callVI (st := []) C (f_readCondition_1 l ad τ44 z61 hXτ44 t n pr hSτ44 (by omega)) cv_X1_68 y68 rfl rfl rfl ⟨by decide, by decide⟩ (Nat.le_of_ble_eq_true rfl) dX1_readTest_51 ?_
          intro r62 τ63 h64
          have hXτ63 := h64.1
          have hSτ63 := h64.2.2.1
          have bh64 := h64.2.2.2.1
          have pτ63 : pl τ63.1 ≤ n := hSτ63.2.2.2.2
          have ah64 : CoF pr t n 1 ((pl σ.1) + 1) (pl τ63.1) r62 := by have q := h64.2.2.2.2; rw [x3h45] at q; exact q
          refine s_if_eq (tgt := 73) C dX1_readTest_54 (by decide) (fun q65 => ?_) (fun q65 => ?_)
          · refine s_iconst C dX1_readTest_73 (by decide) (fun z66 tz66 => ?_)
            exact s_zret C (by omega) X dX1_readTest_74 ⟨hXτ63, (Fr.tr (Fr.tr Fr.rf (Fr.mo h45.2.1 (by decide) (by decide))) (Fr.mo h64.2.1 (by decide) (by decide))), hSτ63, by omega, (fun o ho => ⟨fun q => by omega, fun _ => by rw [A_open x1h45 (by omega), if_neg (by omega), decide_eq_true (show (t (pl σ.1)).toInt = 40 by omega)]; exact (ah64 (true :: o) (by rw [List.length_cons]; omega) rfl).2 (by omega)⟩)⟩
          · have q4h64 := (ah64 (true :: List.replicate 0 false) (by simp) rfl).1 (by omega)
            refine s_aload_n C dX1_readTest_57 rfl ?_
            refine s_getr (k := 0) (j := 66) C y68 fw_X1_19 rfl dX1_readTest_58 ?_
            refine s_bipush C dX1_readTest_61 (by decide) (fun z67 tz67 => ?_)
            refine s_callVI (st := []) C (f_accept l ad τ63 z67 hXτ63 t n pr hSτ63 ) cv_X1_50 y66 rfl rfl rfl ⟨by decide, by decide⟩ (Nat.le_of_ble_eq_true rfl) dX1_readTest_63 ?_
            intro r68 τ69 h70
            have hXτ69 := h70.1
            have hSτ69 := h70.2.2.1
            have bh70 := h70.2.2.2.1
            have pτ69 : pl τ69.1 ≤ n := hSτ69.2.2.2.2
            have ah70 : AcF t n (pl τ63.1) (pl τ69.1) z67 r68 := h70.2.2.2.2
            refine s_if_eq (tgt := 73) C dX1_readTest_66 (by decide) (fun q71 => ?_) (fun q71 => ?_)
            · obtain ⟨y1h70, y2h70⟩ := ah70.2 (by omega)
              refine s_iconst C dX1_readTest_73 (by decide) (fun z72 tz72 => ?_)
              exact s_zret C (by omega) X dX1_readTest_74 ⟨hXτ69, (Fr.tr (Fr.tr (Fr.tr Fr.rf (Fr.mo h45.2.1 (by decide) (by decide))) (Fr.mo h64.2.1 (by decide) (by decide))) (Fr.mo h70.2.1 (by decide) (by decide))), hSτ69, by omega, (by rw [y2h70]; exact (fun o ho => by have q5 := (ah64 (true :: o) (by rw [List.length_cons]; omega) rfl).1 (by omega); exact ⟨fun q => by omega, fun _ => by rw [A_open x1h45 (by omega), if_neg (by omega), decide_eq_true (show (t (pl σ.1)).toInt = 40 by omega)]; rw [q5.1, A_stop3 (by omega) q5.2.2 (y1h70.elim Or.inl (fun z => Or.inr (Or.inl (by omega)))) (Or.inr (by simp))]⟩))⟩
            · obtain ⟨x1h70, x2h70, x3h70⟩ := ah70.1 (by omega)
              refine s_iconst C dX1_readTest_69 (by decide) (fun z73 tz73 => ?_)
              refine s_goto (tgt := 74) C dX1_readTest_70 (by decide) ?_
              exact s_zret C (by omega) X dX1_readTest_74 ⟨hXτ69, (Fr.tr (Fr.tr (Fr.tr Fr.rf (Fr.mo h45.2.1 (by decide) (by decide))) (Fr.mo h64.2.1 (by decide) (by decide))) (Fr.mo h70.2.1 (by decide) (by decide))), hSτ69, by omega, (by rw [x3h70]; exact (fun o ho => by have q5 := (ah64 (true :: o) (by rw [List.length_cons]; omega) rfl).1 (by omega); exact ⟨fun _ => ⟨by rw [A_open x1h45 (by omega), if_neg (by omega), decide_eq_true (show (t (pl σ.1)).toInt = 40 by omega)]; rw [q5.1, A_close x1h70 (by omega)], by omega⟩, fun q => by omega⟩))⟩
      · omega
    · skip
      have hc : n ≤ pl σ.1 ∨ ¬ ((t (pl σ.1)).toInt = 33 ∨ (t (pl σ.1)).toInt = 40) := by unfold tA at hpk; split at hpk <;> omega
      refine s_aload_n C dX1_readTest_20 rfl ?_
      refine s_callVI (st := []) C (f_readComparison l ad σ  hX t n pr hS ) cv_X1_64 y68 rfl rfl rfl ⟨by decide, by decide⟩ (Nat.le_of_ble_eq_true rfl) dX1_readTest_21 ?_
      intro r74 τ75 h76
      have hXτ75 := h76.1
      have hSτ75 := h76.2.2.1
      have bh76 := h76.2.2.2.1
      have pτ75 : pl τ75.1 ≤ n := hSτ75.2.2.2.2
      have ah76 : CmF pr t n (pl σ.1) (pl τ75.1) r74 := h76.2.2.2.2
      exact s_zret C (by omega) X dX1_readTest_24 ⟨hXτ75, (Fr.tr Fr.rf (Fr.mo h76.2.1 (by decide) (by decide))), hSτ75, by omega, (fun o ho => ah76 hc o)⟩
set_option maxRecDepth 100000 in
theorem L_freadAll_0 (l : Launch) (ad : Nat → Nat) (E : Ev) (σ : Sg) (t : Nat → Int32) (n : Nat) (pr : Int) (d : Int32) (hd : d.toInt = 0) (C : Cx E l (rmk 20) 3 cX1_readAll RX1) (X : Rx E ad (some .boolean) (oI (fun r τ => IX τ.1 ∧ Fr [69] [(66, 1), (68, 2)] σ τ ∧ TS t n pr τ.1 ∧ (r.toInt = 0 ∨ r.toInt = 1) ∧ AlF pr t n 0 (pl σ.1) (pl τ.1) r)))  : ∀ (mm : Nat) (τ : Sg) (z : Int32), (Fr [69] [(66, 1), (68, 2)] σ τ) → (IX τ.1) → (TS t n pr τ.1) → (0 ≤ z.toInt ∧ z.toInt ≤ pl τ.1) → (∀ o : List Bool, o.length = 0 → te o = o → Au pr t n 0 o (pl σ.1) = Au pr t n 3 o (pl τ.1)) → (pl σ.1 < pl τ.1) → (60 - z.toInt).toNat < mm → WP E ad 12 [some (.ref (ad 68)), some (.int d), some (.int z)] [] τ := by
  intro mm
  induction mm with
  | zero => intro τ z kF hXτ hSτ h0 hA hgt hm9; exact absurd hm9 (Nat.not_lt_zero _)
  | succ mm ih =>
    intro τ z kF hXτ hSτ h0 hA hgt hm9
    have hS5 : pl τ.1 ≤ n := hSτ.2.2.2.2
    have hn60 : n ≤ 60 := by have q1 := hXτ.tl; have q2 := hSτ.2.1; omega
    refine s_iload_n C dX1_readAll_12 rfl ?_
    refine s_bipush C dX1_readAll_13 (by decide) (fun z1 tz1 => ?_)
    refine s_icmp_ge (tgt := 52) C dX1_readAll_15 (by decide) (fun q2 => ?_) (fun q2 => ?_)
    · skip
      refine s_iconst C dX1_readAll_52 (by decide) (fun z3 tz3 => ?_)
      exact s_zret C (by omega) X dX1_readAll_53 ⟨hXτ, (Fr.tr Fr.rf (Fr.mo kF (by decide) (by decide))), hSτ, by omega, (fun o ho ht => ⟨fun _ => ⟨hA o ho ht, hgt, by omega⟩, fun q => by omega⟩)⟩
    · refine s_aload_n C dX1_readAll_18 rfl ?_
      refine s_getr (k := 0) (j := 66) C y68 fw_X1_19 rfl dX1_readAll_19 ?_
      refine s_bipush C dX1_readAll_22 (by decide) (fun z4 tz4 => ?_)
      refine s_callVI (st := []) C (f_accept l ad τ z4 hXτ t n pr hSτ ) cv_X1_50 y66 rfl rfl rfl ⟨by decide, by decide⟩ (Nat.le_of_ble_eq_true rfl) dX1_readAll_24 ?_
      intro r5 τ6 h7
      have hXτ6 := h7.1
      have hSτ6 := h7.2.2.1
      have bh7 := h7.2.2.2.1
      have pτ6 : pl τ6.1 ≤ n := hSτ6.2.2.2.2
      have ah7 : AcF t n (pl τ.1) (pl τ6.1) z4 r5 := h7.2.2.2.2
      refine s_if_eq (tgt := 52) C dX1_readAll_27 (by decide) (fun q8 => ?_) (fun q8 => ?_)
      · obtain ⟨y1h7, y2h7⟩ := ah7.2 (by omega)
        skip
        refine s_iconst C dX1_readAll_52 (by decide) (fun z9 tz9 => ?_)
        exact s_zret C (by omega) X dX1_readAll_53 ⟨hXτ6, (Fr.tr (Fr.tr Fr.rf (Fr.mo kF (by decide) (by decide))) (Fr.mo h7.2.1 (by decide) (by decide))), hSτ6, by omega, (by rw [y2h7]; exact (fun o ho ht => ⟨fun _ => ⟨hA o ho ht, hgt, by omega⟩, fun q => by omega⟩))⟩
      · obtain ⟨x1h7, x2h7, x3h7⟩ := ah7.1 (by omega)
        refine s_aload_n C dX1_readAll_30 rfl ?_
        refine s_iload_n C dX1_readAll_31 rfl ?_
        refine s_callVI (st := []) C (f_readTest_0 l ad τ6 d hXτ6 t n pr hSτ6 (by omega)) cv_X1_57 y68 rfl rfl rfl ⟨by decide, by decide⟩ (Nat.le_of_ble_eq_true rfl) dX1_readAll_32 ?_
        intro r10 τ11 h12
        have hXτ11 := h12.1
        have hSτ11 := h12.2.2.1
        have bh12 := h12.2.2.2.1
        have pτ11 : pl τ11.1 ≤ n := hSτ11.2.2.2.2
        have ah12 : TsF pr t n 0 ((pl τ.1) + 1) (pl τ11.1) r10 := by have q := h12.2.2.2.2; rw [x3h7] at q; exact q
        refine s_if_ne (tgt := 40) C dX1_readAll_35 (by decide) (fun q13 => ?_) (fun q13 => ?_)
        · have q4h12 := ((ah12 (List.replicate 0 true) (by simp))).1 (by omega)
          refine s_aload_n C dX1_readAll_40 rfl ?_
          refine s_bipush C dX1_readAll_41 (by decide) (fun z14 tz14 => ?_)
          refine s_callVV (st := []) C (c_X1_add l ad τ11 z14 hXτ11 (pv_op (by omega))) cv_X1_53 y68 rfl rfl rfl ⟨by decide, by decide⟩ (Nat.le_of_ble_eq_true rfl) dX1_readAll_43 ?_
          intro τ16 h17
          have hXτ16 := h17.1
          have eh17 : τ16.1 66 1 = τ11.1 66 1 := h17.2.1.f 66 1 (by decide) (by decide)
          have kτ16 : pl τ16.1 = (pl τ11.1) := congrArg (fun z : Int32 => z.toInt.toNat) eh17
          have hSτ16 : TS t n pr τ16.1 := hSτ11.go h17.2.1 (by decide) (by decide) (by rw [eh17]; have := hSτ11.2.2.2.1; omega) (by rw [eh17]; have := hSτ11.2.2.2; omega)
          have pτ16 : pl τ16.1 ≤ n := hSτ16.2.2.2.2
          refine s_iinc C dX1_readAll_46 rfl (by decide) rfl (by decide) (by omega) (fun z18 tz18 => ?_)
          show WP E ad 49 [some (.ref (ad 68)), some (.int d), some (.int z18)] [] τ16
          refine s_goto (tgt := 12) C dX1_readAll_49 (by decide) ?_
          exact ih τ16 z18 (Fr.tr (Fr.tr (Fr.tr (Fr.tr Fr.rf (Fr.mo kF (by decide) (by decide))) (Fr.mo h7.2.1 (by decide) (by decide))) (Fr.mo h12.2.1 (by decide) (by decide))) (Fr.mo h17.2.1 (by decide) (by decide))) hXτ16 hSτ16 (by omega) (fun o ho ht => by rw [hA o ho ht, A_and x1h7 (by omega) ht, ((ah12 o ho).1 (by omega)).1, kτ16]) (by omega) (by omega)
        · skip
          refine s_iconst C dX1_readAll_38 (by decide) (fun z19 tz19 => ?_)
          exact s_zret C (by omega) X dX1_readAll_39 ⟨hXτ11, (Fr.tr (Fr.tr (Fr.tr Fr.rf (Fr.mo kF (by decide) (by decide))) (Fr.mo h7.2.1 (by decide) (by decide))) (Fr.mo h12.2.1 (by decide) (by decide))), hSτ11, by omega, (fun o ho ht => ⟨fun q => by omega, fun _ => by rw [hA o ho ht, A_and x1h7 (by omega) ht]; exact (ah12 o ho).2 (by omega)⟩)⟩
set_option maxRecDepth 100000 in
theorem f_readAll_0 (l : Launch) (ad : Nat → Nat) (σ : Sg) (d : Int32) (hX : IX σ.1) (t : Nat → Int32) (n : Nat) (pr : Int) (hS : TS t n pr σ.1) (hd : d.toInt = 0) : Mt l yX1_readAll cX1_readAll 3 (some .boolean) 20 ad σ [.ref (ad 68), .int d] (oI (fun r τ => IX τ.1 ∧ Fr [69] [(66, 1), (68, 2)] σ τ ∧ TS t n pr τ.1 ∧ (r.toInt = 0 ∨ r.toInt = 1) ∧ AlF pr t n 0 (pl σ.1) (pl τ.1) r)) := by
  have hS5 := hS.2.2.2.2
  have hn60 : n ≤ 60 := by have q1 := hX.tl; have q2 := hS.2.1; omega
  refine Mt_intro (by decide +kernel) (by simp [lg_sl, Value.category]) (fun E C X => ?_)
  show WP E ad 0 [some (.ref (ad 68)), some (.int d), none] [] σ
  refine s_aload_n C dX1_readAll_0 rfl ?_
  refine s_iload_n C dX1_readAll_1 rfl ?_
  refine s_callVI (st := []) C (f_readTest_0 l ad σ d hX t n pr hS (by omega)) cv_X1_57 y68 rfl rfl rfl ⟨by decide, by decide⟩ (Nat.le_of_ble_eq_true rfl) dX1_readAll_2 ?_
  intro r1 τ2 h3
  have hXτ2 := h3.1
  have hSτ2 := h3.2.2.1
  have bh3 := h3.2.2.2.1
  have pτ2 : pl τ2.1 ≤ n := hSτ2.2.2.2.2
  have ah3 : TsF pr t n 0 (pl σ.1) (pl τ2.1) r1 := h3.2.2.2.2
  refine s_if_ne (tgt := 10) C dX1_readAll_5 (by decide) (fun q4 => ?_) (fun q4 => ?_)
  · have q4h3 := ((ah3 (List.replicate 0 true) (by simp))).1 (by omega)
    refine s_iconst C dX1_readAll_10 (by decide) (fun z5 tz5 => ?_)
    refine s_istore_n C dX1_readAll_11 (by decide) (Nat.le_of_ble_eq_true rfl) rfl ?_
    show WP E ad 12 [some (.ref (ad 68)), some (.int d), some (.int z5)] [] τ2
    exact L_freadAll_0 l ad E σ t n pr d hd C X 100 τ2 z5 (Fr.tr Fr.rf (Fr.mo h3.2.1 (by decide) (by decide))) hXτ2 hSτ2 (by omega) (fun o ho ht => ((ah3 o ho).1 (by omega)).1) (by omega) (by omega)
  · refine s_iconst C dX1_readAll_8 (by decide) (fun z6 tz6 => ?_)
    exact s_zret C (by omega) X dX1_readAll_9 ⟨hXτ2, (Fr.tr Fr.rf (Fr.mo h3.2.1 (by decide) (by decide))), hSτ2, by omega, (fun o ho ht => ⟨fun q => by omega, fun _ => (ah3 o ho).2 (by omega)⟩)⟩
set_option maxRecDepth 100000 in
theorem L_freadCondition_0 (l : Launch) (ad : Nat → Nat) (E : Ev) (σ : Sg) (t : Nat → Int32) (n : Nat) (pr : Int) (d : Int32) (hd : d.toInt = 0) (C : Cx E l (rmk 21) 3 cX1_readCondition RX1) (X : Rx E ad (some .boolean) (oI (fun r τ => IX τ.1 ∧ Fr [69] [(66, 1), (68, 2)] σ τ ∧ TS t n pr τ.1 ∧ (r.toInt = 0 ∨ r.toInt = 1) ∧ CoF pr t n 0 (pl σ.1) (pl τ.1) r)))  : ∀ (mm : Nat) (τ : Sg) (z : Int32), (Fr [69] [(66, 1), (68, 2)] σ τ) → (IX τ.1) → (TS t n pr τ.1) → (0 ≤ z.toInt ∧ z.toInt ≤ pl τ.1) → (∀ o : List Bool, o.length = 0 → te o = o → Au pr t n 0 o (pl σ.1) = Au pr t n 3 o (pl τ.1)) → (pl σ.1 < pl τ.1) → ((n ≤ pl τ.1 ∨ ¬ (t (pl τ.1)).toInt = 38)) → (60 - z.toInt).toNat < mm → WP E ad 12 [some (.ref (ad 68)), some (.int d), some (.int z)] [] τ := by
  intro mm
  induction mm with
  | zero => intro τ z kF hXτ hSτ h0 hA hgt hst hm9; exact absurd hm9 (Nat.not_lt_zero _)
  | succ mm ih =>
    intro τ z kF hXτ hSτ h0 hA hgt hst hm9
    have hS5 : pl τ.1 ≤ n := hSτ.2.2.2.2
    have hn60 : n ≤ 60 := by have q1 := hXτ.tl; have q2 := hSτ.2.1; omega
    refine s_iload_n C dX1_readCondition_12 rfl ?_
    refine s_bipush C dX1_readCondition_13 (by decide) (fun z1 tz1 => ?_)
    refine s_icmp_ge (tgt := 52) C dX1_readCondition_15 (by decide) (fun q2 => ?_) (fun q2 => ?_)
    · skip
      refine s_iconst C dX1_readCondition_52 (by decide) (fun z3 tz3 => ?_)
      exact s_zret C (by omega) X dX1_readCondition_53 ⟨hXτ, (Fr.tr Fr.rf (Fr.mo kF (by decide) (by decide))), hSτ, by omega, (fun o ho ht => ⟨fun _ => ⟨hA o ho ht, hgt, by omega⟩, fun q => by omega⟩)⟩
    · refine s_aload_n C dX1_readCondition_18 rfl ?_
      refine s_getr (k := 0) (j := 66) C y68 fw_X1_19 rfl dX1_readCondition_19 ?_
      refine s_bipush C dX1_readCondition_22 (by decide) (fun z4 tz4 => ?_)
      refine s_callVI (st := []) C (f_accept l ad τ z4 hXτ t n pr hSτ ) cv_X1_50 y66 rfl rfl rfl ⟨by decide, by decide⟩ (Nat.le_of_ble_eq_true rfl) dX1_readCondition_24 ?_
      intro r5 τ6 h7
      have hXτ6 := h7.1
      have hSτ6 := h7.2.2.1
      have bh7 := h7.2.2.2.1
      have pτ6 : pl τ6.1 ≤ n := hSτ6.2.2.2.2
      have ah7 : AcF t n (pl τ.1) (pl τ6.1) z4 r5 := h7.2.2.2.2
      refine s_if_eq (tgt := 52) C dX1_readCondition_27 (by decide) (fun q8 => ?_) (fun q8 => ?_)
      · obtain ⟨y1h7, y2h7⟩ := ah7.2 (by omega)
        skip
        refine s_iconst C dX1_readCondition_52 (by decide) (fun z9 tz9 => ?_)
        exact s_zret C (by omega) X dX1_readCondition_53 ⟨hXτ6, (Fr.tr (Fr.tr Fr.rf (Fr.mo kF (by decide) (by decide))) (Fr.mo h7.2.1 (by decide) (by decide))), hSτ6, by omega, (by rw [y2h7]; exact (fun o ho ht => ⟨fun _ => ⟨hA o ho ht, hgt, by omega⟩, fun q => by omega⟩))⟩
      · obtain ⟨x1h7, x2h7, x3h7⟩ := ah7.1 (by omega)
        refine s_aload_n C dX1_readCondition_30 rfl ?_
        refine s_iload_n C dX1_readCondition_31 rfl ?_
        refine s_callVI (st := []) C (f_readAll_0 l ad τ6 d hXτ6 t n pr hSτ6 (by omega)) cv_X1_46 y68 rfl rfl rfl ⟨by decide, by decide⟩ (Nat.le_of_ble_eq_true rfl) dX1_readCondition_32 ?_
        intro r10 τ11 h12
        have hXτ11 := h12.1
        have hSτ11 := h12.2.2.1
        have bh12 := h12.2.2.2.1
        have pτ11 : pl τ11.1 ≤ n := hSτ11.2.2.2.2
        have ah12 : AlF pr t n 0 ((pl τ.1) + 1) (pl τ11.1) r10 := by have q := h12.2.2.2.2; rw [x3h7] at q; exact q
        refine s_if_ne (tgt := 40) C dX1_readCondition_35 (by decide) (fun q13 => ?_) (fun q13 => ?_)
        · have q4h12 := ((ah12 (List.replicate 0 true) (by simp) rfl)).1 (by omega)
          refine s_aload_n C dX1_readCondition_40 rfl ?_
          refine s_bipush C dX1_readCondition_41 (by decide) (fun z14 tz14 => ?_)
          refine s_callVV (st := []) C (c_X1_add l ad τ11 z14 hXτ11 (pv_op (by omega))) cv_X1_53 y68 rfl rfl rfl ⟨by decide, by decide⟩ (Nat.le_of_ble_eq_true rfl) dX1_readCondition_43 ?_
          intro τ16 h17
          have hXτ16 := h17.1
          have eh17 : τ16.1 66 1 = τ11.1 66 1 := h17.2.1.f 66 1 (by decide) (by decide)
          have kτ16 : pl τ16.1 = (pl τ11.1) := congrArg (fun z : Int32 => z.toInt.toNat) eh17
          have hSτ16 : TS t n pr τ16.1 := hSτ11.go h17.2.1 (by decide) (by decide) (by rw [eh17]; have := hSτ11.2.2.2.1; omega) (by rw [eh17]; have := hSτ11.2.2.2; omega)
          have pτ16 : pl τ16.1 ≤ n := hSτ16.2.2.2.2
          refine s_iinc C dX1_readCondition_46 rfl (by decide) rfl (by decide) (by omega) (fun z18 tz18 => ?_)
          show WP E ad 49 [some (.ref (ad 68)), some (.int d), some (.int z18)] [] τ16
          refine s_goto (tgt := 12) C dX1_readCondition_49 (by decide) ?_
          exact ih τ16 z18 (Fr.tr (Fr.tr (Fr.tr (Fr.tr Fr.rf (Fr.mo kF (by decide) (by decide))) (Fr.mo h7.2.1 (by decide) (by decide))) (Fr.mo h12.2.1 (by decide) (by decide))) (Fr.mo h17.2.1 (by decide) (by decide))) hXτ16 hSτ16 (by omega) (fun o ho ht => by rw [hA o ho ht, A_and x1h7 (by omega) ht, ((ah12 o ho ht).1 (by omega)).1, kτ16]) (by omega) (by rw [kτ16]; omega) (by omega)
        · skip
          refine s_iconst C dX1_readCondition_38 (by decide) (fun z19 tz19 => ?_)
          exact s_zret C (by omega) X dX1_readCondition_39 ⟨hXτ11, (Fr.tr (Fr.tr (Fr.tr Fr.rf (Fr.mo kF (by decide) (by decide))) (Fr.mo h7.2.1 (by decide) (by decide))) (Fr.mo h12.2.1 (by decide) (by decide))), hSτ11, by omega, (fun o ho ht => ⟨fun q => by omega, fun _ => by rw [hA o ho ht, A_and x1h7 (by omega) ht]; exact (ah12 o ho ht).2 (by omega)⟩)⟩
set_option maxRecDepth 100000 in
theorem f_readCondition_0 (l : Launch) (ad : Nat → Nat) (σ : Sg) (d : Int32) (hX : IX σ.1) (t : Nat → Int32) (n : Nat) (pr : Int) (hS : TS t n pr σ.1) (hd : d.toInt = 0) : Mt l yX1_readCondition cX1_readCondition 3 (some .boolean) 21 ad σ [.ref (ad 68), .int d] (oI (fun r τ => IX τ.1 ∧ Fr [69] [(66, 1), (68, 2)] σ τ ∧ TS t n pr τ.1 ∧ (r.toInt = 0 ∨ r.toInt = 1) ∧ CoF pr t n 0 (pl σ.1) (pl τ.1) r)) := by
  have hS5 := hS.2.2.2.2
  have hn60 : n ≤ 60 := by have q1 := hX.tl; have q2 := hS.2.1; omega
  refine Mt_intro (by decide +kernel) (by simp [lg_sl, Value.category]) (fun E C X => ?_)
  show WP E ad 0 [some (.ref (ad 68)), some (.int d), none] [] σ
  refine s_aload_n C dX1_readCondition_0 rfl ?_
  refine s_iload_n C dX1_readCondition_1 rfl ?_
  refine s_callVI (st := []) C (f_readAll_0 l ad σ d hX t n pr hS (by omega)) cv_X1_46 y68 rfl rfl rfl ⟨by decide, by decide⟩ (Nat.le_of_ble_eq_true rfl) dX1_readCondition_2 ?_
  intro r1 τ2 h3
  have hXτ2 := h3.1
  have hSτ2 := h3.2.2.1
  have bh3 := h3.2.2.2.1
  have pτ2 : pl τ2.1 ≤ n := hSτ2.2.2.2.2
  have ah3 : AlF pr t n 0 (pl σ.1) (pl τ2.1) r1 := h3.2.2.2.2
  refine s_if_ne (tgt := 10) C dX1_readCondition_5 (by decide) (fun q4 => ?_) (fun q4 => ?_)
  · have q4h3 := ((ah3 (List.replicate 0 true) (by simp) rfl)).1 (by omega)
    refine s_iconst C dX1_readCondition_10 (by decide) (fun z5 tz5 => ?_)
    refine s_istore_n C dX1_readCondition_11 (by decide) (Nat.le_of_ble_eq_true rfl) rfl ?_
    show WP E ad 12 [some (.ref (ad 68)), some (.int d), some (.int z5)] [] τ2
    exact L_freadCondition_0 l ad E σ t n pr d hd C X 100 τ2 z5 (Fr.tr Fr.rf (Fr.mo h3.2.1 (by decide) (by decide))) hXτ2 hSτ2 (by omega) (fun o ho ht => ((ah3 o ho ht).1 (by omega)).1) (by omega) q4h3.2.2 (by omega)
  · refine s_iconst C dX1_readCondition_8 (by decide) (fun z6 tz6 => ?_)
    exact s_zret C (by omega) X dX1_readCondition_9 ⟨hXτ2, (Fr.tr Fr.rf (Fr.mo h3.2.1 (by decide) (by decide))), hSτ2, by omega, (fun o ho ht => ⟨fun q => by omega, fun _ => (ah3 o ho ht).2 (by omega)⟩)⟩
