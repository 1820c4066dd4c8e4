theorem sR_self (τ : Sg) (i : Nat) : sR τ i (τ.1 i) = τ := by
  refine Prod.ext (funext fun a => ?_) rfl
  show va_up τ.1 i (τ.1 i) a = τ.1 a
  by_cases ha : a = i
  · rw [ha, va_up_self]
  · rw [va_up_ne _ _ ha]
/-- a row that is the same number up to its end is that number everywhere -/
theorem wp_fill {E : Ev} {ad : Nat → Nat} {pc : Nat} {lv : List (Option Value)} {st : List Value} {τ : Sg} {i n b : Nat} {c : Int32} (y : lay[i]? = some (.inl (0, n, b))) (h : ∀ j : Nat, (j : Int) < n → (τ.1 i j).toInt = c.toInt) (k : WP E ad pc lv st (sR τ i (fun _ => c))) : WP E ad pc lv st τ := by
  rw [← sR_self τ i]
  exact wp_row y (fun j hj => Int32.toInt_inj.mp (h j (by omega))) k
theorem la_start {σ τ : Sg} (hI : IM σ.1) (kF : Fr [105, 106] [(71, 39), (71, 40)] σ τ) (k39 : (τ.1 71 39).toInt = 1) (k40 : (τ.1 71 40).toInt = 0) (ka : ∀ j, (τ.1 105 j).toInt = -5) (hz : ∀ j, (τ.1 106 j).toInt = 0) : LA σ τ := by
  have hpr := hI.pr
  have kB : ∀ j, 0 ≤ (τ.1 106 j).toInt ∧ (τ.1 106 j).toInt ≤ 5 := fun j => by rw [hz j]; omega
  refine ⟨⟨kF.mo (by decide) (by decide), k39, kB, fun p hp => ?_, ⟨by rw [kF.a 104 (by decide) (by decide)]; exact hI.cu.2.1, by rw [kF.a 103 (by decide) (by decide)]; exact hI.cu.2.2.1, fun j => by rw [ka j]; omega, fun i hi => by omega, fun d hd => by rw [ka d] at hd; omega, fun i j _ hj => by omega, fun q => by omega⟩, by omega⟩, fun i hi => by omega, ?_, fun _ => hz⟩
  · rw [hz p]
    exact ⟨by have := hI.ev p; omega, fun _ => rfl⟩
  · have := rk_b (m := nw τ) kB (k := (σ.1 71 0).toInt.toNat) (by omega)
    omega
set_option maxRecDepth 100000 in
theorem L_layE (l : Launch) (ad : Nat → Nat) (E : Ev) (σ : Sg) (hI : IM σ.1) (hli : (σ.1 71 39).toInt = 0) (t0 : Sg) (hZ : LZ σ t0) (g : Int32) (n : Nat) (K : ∀ (υ : Sg) (g : Int32), (g.toInt = 0 ∧ IM υ.1 ∧ (υ.1 71 39).toInt = 1 ∧ Fr [103, 104, 105, 106] [(71, 39), (71, 40)] σ υ) ∨ (g.toInt = 1 ∧ LA σ υ ∧ (1296 - rk (nw υ) (σ.1 71 0).toInt.toNat).toNat < n) → WP E ad 63 [some (.ref (ad 71)), some (.int g), none] [] υ) (hmz : (1296 - rk (nw t0) (σ.1 71 0).toInt.toNat).toNat < n + 1) (C : Cx E l (rmk 2) 3 cX10_layCuts RX10) (X : Rx E ad none (oV (fun τ => IM τ.1 ∧ ¬ (τ.1 71 39).toInt = 0 ∧ Fr [103, 104, 105, 106] [(71, 39), (71, 40)] σ τ ∧ (¬ (σ.1 71 39).toInt = 0 → τ.1 71 40 = σ.1 71 40))))  : ∀ (n : Nat) (τ : Sg) (z : Int32), (Fr [106] [] t0 τ) → (∀ j : Nat, (j : Int) ≤ z.toInt → τ.1 106 j = t0.1 106 j) → (∀ j : Nat, z.toInt < j → (j : Int) < (σ.1 71 0).toInt → (τ.1 106 j).toInt = 0 ∧ (t0.1 106 j).toInt = (σ.1 73 j).toInt) → (∀ j : Nat, (σ.1 71 0).toInt ≤ j → (τ.1 106 j).toInt = (t0.1 106 j).toInt) → (∀ j, 0 ≤ (τ.1 106 j).toInt ∧ (τ.1 106 j).toInt ≤ 5) → (-1 ≤ z.toInt ∧ z.toInt < (σ.1 71 0).toInt) → (z.toInt + 1).toNat < n → WP E ad 149 [some (.ref (ad 71)), some (.int g), some (.int z)] [] τ := by
  intro n
  induction n with
  | zero => intro τ z kF k2 k3 k4 kB h0 hm9; exact absurd hm9 (Nat.not_lt_zero _)
  | succ n ih =>
    intro τ z kF k2 k3 k4 kB h0 hm9
    have hpr := hI.pr
    have b1 := hZ.1.1
    have e0 : τ.1 71 0 = σ.1 71 0 := (kF.f 71 0 (by decide) (by decide)).trans (b1.f 71 0 (by decide) (by decide))
    have e73 : τ.1 73 = σ.1 73 := (kF.a 73 (by decide) (by decide)).trans (b1.a 73 (by decide) (by decide))
    have e0i : (τ.1 71 0).toInt = (σ.1 71 0).toInt := by rw [e0]
    refine s_iload_n C dX10_layCuts_149 rfl ?_
    refine s_if_lt (tgt := 181) C dX10_layCuts_150 (by decide) (fun q1 => ?_) (fun q1 => ?_)
    · refine s_iload_n C dX10_layCuts_181 rfl ?_
      refine s_if_lt (tgt := 189) C dX10_layCuts_182 (by decide) (fun q2 => ?_) (fun q2 => ?_)
      · refine s_iconst C dX10_layCuts_189 (by decide) (fun z3 tz3 => ?_)
        refine s_istore_n C dX10_layCuts_190 (by decide) (Nat.le_of_ble_eq_true rfl) rfl ?_
        show WP E ad 191 [some (.ref (ad 71)), some (.int z3), some (.int z)] [] τ
        refine s_iload_n C dX10_layCuts_191 rfl ?_
        refine s_if_eq (tgt := 205) C dX10_layCuts_192 (by decide) (fun q4 => ?_) (fun q4 => ?_)
        · refine s_goto (tgt := 63) C dX10_layCuts_205 (by decide) ?_
          refine wp_le (lv' := [some (.ref (ad 71)), some (.int z3), none]) ⟨rfl, ⟨rfl, trivial⟩⟩ ?_
          exact K τ z3 (Or.inl ⟨by omega, lz_end hI hZ kF (fun p hp => (k3 p (by omega) hp).2)⟩)
        · have hzb := hZ.1.2.2.1 z.toNatClampNeg
          have hz00 : (τ.1 106 z.toNatClampNeg).toInt = (t0.1 106 z.toNatClampNeg).toInt := by rw [k2 _ (by unfold Int32.toNatClampNeg; omega)]
          refine s_aload_n C dX10_layCuts_195 rfl ?_
          refine s_getr (k := 44) (j := 106) C y71 fw_X10_119 rfl dX10_layCuts_196 ?_
          refine s_iload_n C dX10_layCuts_199 rfl ?_
          refine s_dup2 C dX10_layCuts_200 rfl rfl ?_
          refine s_iald (r := (τ.1 106 z.toNatClampNeg)) C y106 (by omega) rfl dX10_layCuts_201 ?_
          have b5 := kB z.toNatClampNeg
          refine s_iconst C dX10_layCuts_202 (by decide) (fun z6 tz6 => ?_)
          refine s_iadd C dX10_layCuts_203 (by omega) (fun z7 tz7 => ?_)
          refine s_iast C y106 (by omega) dX10_layCuts_204 ?_
          refine s_goto (tgt := 63) C dX10_layCuts_205 (by decide) ?_
          refine wp_le (lv' := [some (.ref (ad 71)), some (.int z3), none]) ⟨rfl, ⟨rfl, trivial⟩⟩ ?_
          have hzn : (z.toNatClampNeg : Int) = z.toInt := by unfold Int32.toNatClampNeg; omega
          have hz0 : τ.1 106 z.toNatClampNeg = t0.1 106 z.toNatClampNeg := k2 _ (by omega)
          have hz0i : (τ.1 106 z.toNatClampNeg).toInt = (t0.1 106 z.toNatClampNeg).toInt := by rw [hz0]
          have hb4 := hZ.1.2.2.2.1 z.toNatClampNeg (by omega)
          have hevz := hI.ev z.toNatClampNeg
          have e73i : (τ.1 73 z.toNatClampNeg).toInt = (σ.1 73 z.toNatClampNeg).toInt := by rw [e73]
          have hnx := lz_next (υ := (sV τ 106 z.toNatClampNeg z7)) hI hZ (P := z.toNatClampNeg) (by omega) (Fr.sV (Fr.tr Fr.rf (Fr.mo kF (by decide) (by decide))) (Or.inl (by decide))) (fun j hj => by show Int32.toInt (upd _ _ _ _) = _; rw [pk_un (by omega), k2 j (by omega)]) (by show Int32.toInt (upd _ _ _ _) = _; rw [pk_us]; omega) (by show Int32.toInt (upd _ _ _ _) ≤ _; rw [pk_us]; omega) (fun j hj h4 => by show Int32.toInt (upd _ _ _ _) = 0; rw [pk_un (by omega)]; by_cases q : (j : Int) < (σ.1 71 0).toInt; (exact (k3 j (by omega) q).1); (rw [k4 j (by omega)]; exact (hZ.1.2.2.2.1 j h4).2 (by omega))) (up_iv kB _ (by omega))
          exact K (sV τ 106 z.toNatClampNeg z7) z3 (Or.inr ⟨by omega, hnx.1, by omega⟩)
      · refine s_iconst C dX10_layCuts_185 (by decide) (fun z8 tz8 => ?_)
        refine s_goto (tgt := 190) C dX10_layCuts_186 (by decide) ?_
        refine s_istore_n C dX10_layCuts_190 (by decide) (Nat.le_of_ble_eq_true rfl) rfl ?_
        show WP E ad 191 [some (.ref (ad 71)), some (.int z8), some (.int z)] [] τ
        refine s_iload_n C dX10_layCuts_191 rfl ?_
        refine s_if_eq (tgt := 205) C dX10_layCuts_192 (by decide) (fun q9 => ?_) (fun q9 => ?_)
        · refine s_goto (tgt := 63) C dX10_layCuts_205 (by decide) ?_
          refine wp_le (lv' := [some (.ref (ad 71)), some (.int z8), none]) ⟨rfl, ⟨rfl, trivial⟩⟩ ?_
          exact K τ z8 (Or.inl ⟨by omega, lz_end hI hZ kF (fun p hp => (k3 p (by omega) hp).2)⟩)
        · have hzb := hZ.1.2.2.1 z.toNatClampNeg
          have hz00 : (τ.1 106 z.toNatClampNeg).toInt = (t0.1 106 z.toNatClampNeg).toInt := by rw [k2 _ (by unfold Int32.toNatClampNeg; omega)]
          refine s_aload_n C dX10_layCuts_195 rfl ?_
          refine s_getr (k := 44) (j := 106) C y71 fw_X10_119 rfl dX10_layCuts_196 ?_
          refine s_iload_n C dX10_layCuts_199 rfl ?_
          refine s_dup2 C dX10_layCuts_200 rfl rfl ?_
          refine s_iald (r := (τ.1 106 z.toNatClampNeg)) C y106 (by omega) rfl dX10_layCuts_201 ?_
          have b10 := kB z.toNatClampNeg
          refine s_iconst C dX10_layCuts_202 (by decide) (fun z11 tz11 => ?_)
          refine s_iadd C dX10_layCuts_203 (by omega) (fun z12 tz12 => ?_)
          refine s_iast C y106 (by omega) dX10_layCuts_204 ?_
          refine s_goto (tgt := 63) C dX10_layCuts_205 (by decide) ?_
          refine wp_le (lv' := [some (.ref (ad 71)), some (.int z8), none]) ⟨rfl, ⟨rfl, trivial⟩⟩ ?_
          have hzn : (z.toNatClampNeg : Int) = z.toInt := by unfold Int32.toNatClampNeg; omega
          have hz0 : τ.1 106 z.toNatClampNeg = t0.1 106 z.toNatClampNeg := k2 _ (by omega)
          have hz0i : (τ.1 106 z.toNatClampNeg).toInt = (t0.1 106 z.toNatClampNeg).toInt := by rw [hz0]
          have hb4 := hZ.1.2.2.2.1 z.toNatClampNeg (by omega)
          have hevz := hI.ev z.toNatClampNeg
          have e73i : (τ.1 73 z.toNatClampNeg).toInt = (σ.1 73 z.toNatClampNeg).toInt := by rw [e73]
          have hnx := lz_next (υ := (sV τ 106 z.toNatClampNeg z12)) hI hZ (P := z.toNatClampNeg) (by omega) (Fr.sV (Fr.tr Fr.rf (Fr.mo kF (by decide) (by decide))) (Or.inl (by decide))) (fun j hj => by show Int32.toInt (upd _ _ _ _) = _; rw [pk_un (by omega), k2 j (by omega)]) (by show Int32.toInt (upd _ _ _ _) = _; rw [pk_us]; omega) (by show Int32.toInt (upd _ _ _ _) ≤ _; rw [pk_us]; omega) (fun j hj h4 => by show Int32.toInt (upd _ _ _ _) = 0; rw [pk_un (by omega)]; by_cases q : (j : Int) < (σ.1 71 0).toInt; (exact (k3 j (by omega) q).1); (rw [k4 j (by omega)]; exact (hZ.1.2.2.2.1 j h4).2 (by omega))) (up_iv kB _ (by omega))
          exact K (sV τ 106 z.toNatClampNeg z12) z8 (Or.inr ⟨by omega, hnx.1, by omega⟩)
    · refine s_aload_n C dX10_layCuts_153 rfl ?_
      refine s_getr (k := 44) (j := 106) C y71 fw_X10_119 rfl dX10_layCuts_154 ?_
      refine s_iload_n C dX10_layCuts_157 rfl ?_
      refine s_iald (r := (τ.1 106 z.toNatClampNeg)) C y106 (by omega) rfl dX10_layCuts_158 ?_
      have b13 := kB z.toNatClampNeg
      refine s_aload_n C dX10_layCuts_159 rfl ?_
      refine s_getr (k := 2) (j := 73) C y71 fw_X10_19 rfl dX10_layCuts_160 ?_
      refine s_iload_n C dX10_layCuts_163 rfl ?_
      refine s_iald (r := (τ.1 73 z.toNatClampNeg)) C y73 (by omega) rfl dX10_layCuts_164 ?_
      refine s_icmp_ne (tgt := 181) C dX10_layCuts_165 (by decide) (fun q14 => ?_) (fun q14 => ?_)
      · refine s_iload_n C dX10_layCuts_181 rfl ?_
        refine s_if_lt (tgt := 189) C dX10_layCuts_182 (by decide) (fun q15 => ?_) (fun q15 => ?_)
        · refine s_iconst C dX10_layCuts_189 (by decide) (fun z16 tz16 => ?_)
          refine s_istore_n C dX10_layCuts_190 (by decide) (Nat.le_of_ble_eq_true rfl) rfl ?_
          show WP E ad 191 [some (.ref (ad 71)), some (.int z16), some (.int z)] [] τ
          refine s_iload_n C dX10_layCuts_191 rfl ?_
          refine s_if_eq (tgt := 205) C dX10_layCuts_192 (by decide) (fun q17 => ?_) (fun q17 => ?_)
          · refine s_goto (tgt := 63) C dX10_layCuts_205 (by decide) ?_
            refine wp_le (lv' := [some (.ref (ad 71)), some (.int z16), none]) ⟨rfl, ⟨rfl, trivial⟩⟩ ?_
            exact K τ z16 (Or.inl ⟨by omega, lz_end hI hZ kF (fun p hp => (k3 p (by omega) hp).2)⟩)
          · have hzb := hZ.1.2.2.1 z.toNatClampNeg
            have hz00 : (τ.1 106 z.toNatClampNeg).toInt = (t0.1 106 z.toNatClampNeg).toInt := by rw [k2 _ (by unfold Int32.toNatClampNeg; omega)]
            refine s_aload_n C dX10_layCuts_195 rfl ?_
            refine s_getr (k := 44) (j := 106) C y71 fw_X10_119 rfl dX10_layCuts_196 ?_
            refine s_iload_n C dX10_layCuts_199 rfl ?_
            refine s_dup2 C dX10_layCuts_200 rfl rfl ?_
            refine s_iald (r := (τ.1 106 z.toNatClampNeg)) C y106 (by omega) rfl dX10_layCuts_201 ?_
            have b18 := kB z.toNatClampNeg
            refine s_iconst C dX10_layCuts_202 (by decide) (fun z19 tz19 => ?_)
            refine s_iadd C dX10_layCuts_203 (by omega) (fun z20 tz20 => ?_)
            refine s_iast C y106 (by omega) dX10_layCuts_204 ?_
            refine s_goto (tgt := 63) C dX10_layCuts_205 (by decide) ?_
            refine wp_le (lv' := [some (.ref (ad 71)), some (.int z16), none]) ⟨rfl, ⟨rfl, trivial⟩⟩ ?_
            have hzn : (z.toNatClampNeg : Int) = z.toInt := by unfold Int32.toNatClampNeg; omega
            have hz0 : τ.1 106 z.toNatClampNeg = t0.1 106 z.toNatClampNeg := k2 _ (by omega)
            have hz0i : (τ.1 106 z.toNatClampNeg).toInt = (t0.1 106 z.toNatClampNeg).toInt := by rw [hz0]
            have hb4 := hZ.1.2.2.2.1 z.toNatClampNeg (by omega)
            have hevz := hI.ev z.toNatClampNeg
            have e73i : (τ.1 73 z.toNatClampNeg).toInt = (σ.1 73 z.toNatClampNeg).toInt := by rw [e73]
            have hnx := lz_next (υ := (sV τ 106 z.toNatClampNeg z20)) hI hZ (P := z.toNatClampNeg) (by omega) (Fr.sV (Fr.tr Fr.rf (Fr.mo kF (by decide) (by decide))) (Or.inl (by decide))) (fun j hj => by show Int32.toInt (upd _ _ _ _) = _; rw [pk_un (by omega), k2 j (by omega)]) (by show Int32.toInt (upd _ _ _ _) = _; rw [pk_us]; omega) (by show Int32.toInt (upd _ _ _ _) ≤ _; rw [pk_us]; omega) (fun j hj h4 => by show Int32.toInt (upd _ _ _ _) = 0; rw [pk_un (by omega)]; by_cases q : (j : Int) < (σ.1 71 0).toInt; (exact (k3 j (by omega) q).1); (rw [k4 j (by omega)]; exact (hZ.1.2.2.2.1 j h4).2 (by omega))) (up_iv kB _ (by omega))
            exact K (sV τ 106 z.toNatClampNeg z20) z16 (Or.inr ⟨by omega, hnx.1, by omega⟩)
        · refine s_iconst C dX10_layCuts_185 (by decide) (fun z21 tz21 => ?_)
          refine s_goto (tgt := 190) C dX10_layCuts_186 (by decide) ?_
          refine s_istore_n C dX10_layCuts_190 (by decide) (Nat.le_of_ble_eq_true rfl) rfl ?_
          show WP E ad 191 [some (.ref (ad 71)), some (.int z21), some (.int z)] [] τ
          refine s_iload_n C dX10_layCuts_191 rfl ?_
          refine s_if_eq (tgt := 205) C dX10_layCuts_192 (by decide) (fun q22 => ?_) (fun q22 => ?_)
          · refine s_goto (tgt := 63) C dX10_layCuts_205 (by decide) ?_
            refine wp_le (lv' := [some (.ref (ad 71)), some (.int z21), none]) ⟨rfl, ⟨rfl, trivial⟩⟩ ?_
            exact K τ z21 (Or.inl ⟨by omega, lz_end hI hZ kF (fun p hp => (k3 p (by omega) hp).2)⟩)
          · have hzb := hZ.1.2.2.1 z.toNatClampNeg
            have hz00 : (τ.1 106 z.toNatClampNeg).toInt = (t0.1 106 z.toNatClampNeg).toInt := by rw [k2 _ (by unfold Int32.toNatClampNeg; omega)]
            refine s_aload_n C dX10_layCuts_195 rfl ?_
            refine s_getr (k := 44) (j := 106) C y71 fw_X10_119 rfl dX10_layCuts_196 ?_
            refine s_iload_n C dX10_layCuts_199 rfl ?_
            refine s_dup2 C dX10_layCuts_200 rfl rfl ?_
            refine s_iald (r := (τ.1 106 z.toNatClampNeg)) C y106 (by omega) rfl dX10_layCuts_201 ?_
            have b23 := kB z.toNatClampNeg
            refine s_iconst C dX10_layCuts_202 (by decide) (fun z24 tz24 => ?_)
            refine s_iadd C dX10_layCuts_203 (by omega) (fun z25 tz25 => ?_)
            refine s_iast C y106 (by omega) dX10_layCuts_204 ?_
            refine s_goto (tgt := 63) C dX10_layCuts_205 (by decide) ?_
            refine wp_le (lv' := [some (.ref (ad 71)), some (.int z21), none]) ⟨rfl, ⟨rfl, trivial⟩⟩ ?_
            have hzn : (z.toNatClampNeg : Int) = z.toInt := by unfold Int32.toNatClampNeg; omega
            have hz0 : τ.1 106 z.toNatClampNeg = t0.1 106 z.toNatClampNeg := k2 _ (by omega)
            have hz0i : (τ.1 106 z.toNatClampNeg).toInt = (t0.1 106 z.toNatClampNeg).toInt := by rw [hz0]
            have hb4 := hZ.1.2.2.2.1 z.toNatClampNeg (by omega)
            have hevz := hI.ev z.toNatClampNeg
            have e73i : (τ.1 73 z.toNatClampNeg).toInt = (σ.1 73 z.toNatClampNeg).toInt := by rw [e73]
            have hnx := lz_next (υ := (sV τ 106 z.toNatClampNeg z25)) hI hZ (P := z.toNatClampNeg) (by omega) (Fr.sV (Fr.tr Fr.rf (Fr.mo kF (by decide) (by decide))) (Or.inl (by decide))) (fun j hj => by show Int32.toInt (upd _ _ _ _) = _; rw [pk_un (by omega), k2 j (by omega)]) (by show Int32.toInt (upd _ _ _ _) = _; rw [pk_us]; omega) (by show Int32.toInt (upd _ _ _ _) ≤ _; rw [pk_us]; omega) (fun j hj h4 => by show Int32.toInt (upd _ _ _ _) = 0; rw [pk_un (by omega)]; by_cases q : (j : Int) < (σ.1 71 0).toInt; (exact (k3 j (by omega) q).1); (rw [k4 j (by omega)]; exact (hZ.1.2.2.2.1 j h4).2 (by omega))) (up_iv kB _ (by omega))
            exact K (sV τ 106 z.toNatClampNeg z25) z21 (Or.inr ⟨by omega, hnx.1, by omega⟩)
      · have MANY : (τ.1 106 z.toNatClampNeg).toInt = (σ.1 73 z.toNatClampNeg).toInt := by rw [← e73]; omega
        refine s_aload_n C dX10_layCuts_168 rfl ?_
        refine s_getr (k := 44) (j := 106) C y71 fw_X10_119 rfl dX10_layCuts_169 ?_
        refine s_iload_n C dX10_layCuts_172 rfl ?_
        refine s_iconst C dX10_layCuts_173 (by decide) (fun z26 tz26 => ?_)
        refine s_iast C y106 (by omega) dX10_layCuts_174 ?_
        refine s_iinc C dX10_layCuts_175 rfl (by decide) rfl (by decide) (by omega) (fun z27 tz27 => ?_)
        show WP E ad 178 [some (.ref (ad 71)), some (.int g), some (.int z27)] [] (sV τ 106 z.toNatClampNeg z26)
        refine s_goto (tgt := 149) C dX10_layCuts_178 (by decide) ?_
        have hzn : (z.toNatClampNeg : Int) = z.toInt := by unfold Int32.toNatClampNeg; omega
        have hz0 : τ.1 106 z.toNatClampNeg = t0.1 106 z.toNatClampNeg := k2 _ (by omega)
        exact ih (sV τ 106 z.toNatClampNeg z26) z27 (Fr.sV (Fr.tr Fr.rf (Fr.mo kF (by decide) (by decide))) (Or.inl (by decide))) (fun j hj => (pk_un (by omega)).trans (k2 j (by omega))) (fun j h1 h2 => by by_cases q : j = z.toNatClampNeg; (subst q; refine ⟨by show Int32.toInt (upd _ _ _ _) = 0; rw [pk_us]; omega, ?_⟩; rw [hz0] at MANY; omega); (refine ⟨by show Int32.toInt (upd _ _ _ _) = 0; rw [pk_un q]; exact (k3 j (by omega) h2).1, (k3 j (by omega) h2).2⟩)) (fun j hj => by show Int32.toInt (upd _ _ _ _) = _; rw [pk_un (by omega)]; exact k4 j hj) (up_iv kB _ (by omega)) (by omega) (by omega)
set_option maxRecDepth 100000 in
theorem E_lay (l : Launch) (ad : Nat → Nat) (E : Ev) (σ : Sg) (hI : IM σ.1) (hli : (σ.1 71 39).toInt = 0) (C : Cx E l (rmk 2) 3 cX10_layCuts RX10) (X : Rx E ad none (oV (fun τ => IM τ.1 ∧ ¬ (τ.1 71 39).toInt = 0 ∧ Fr [103, 104, 105, 106] [(71, 39), (71, 40)] σ τ ∧ (¬ (σ.1 71 39).toInt = 0 → τ.1 71 40 = σ.1 71 40)))) (t0 : Sg) (hZ : LZ σ t0) (g : Int32) (n : Nat) (K : ∀ (υ : Sg) (g : Int32), (g.toInt = 0 ∧ IM υ.1 ∧ (υ.1 71 39).toInt = 1 ∧ Fr [103, 104, 105, 106] [(71, 39), (71, 40)] σ υ) ∨ (g.toInt = 1 ∧ LA σ υ ∧ (1296 - rk (nw υ) (σ.1 71 0).toInt.toNat).toNat < n) → WP E ad 63 [some (.ref (ad 71)), some (.int g), none] [] υ) (hmz : (1296 - rk (nw t0) (σ.1 71 0).toInt.toNat).toNat < n + 1) : WP E ad 142 [some (.ref (ad 71)), some (.int g), none] [] t0 := by
  have hpr := hI.pr
  have e0 : t0.1 71 0 = σ.1 71 0 := hZ.1.1.f 71 0 (by decide) (by decide)
  have e0i : (t0.1 71 0).toInt = (σ.1 71 0).toInt := by rw [e0]
  refine s_aload_n C dX10_layCuts_142 rfl ?_
  refine s_get (k := 0) (x := (t0.1 71 0)) C y71 fw_X10_9 rfl rfl dX10_layCuts_143 ?_
  refine s_iconst C dX10_layCuts_146 (by decide) (fun z1 tz1 => ?_)
  refine s_isub C dX10_layCuts_147 (by omega) (fun z2 tz2 => ?_)
  refine s_istore_n C dX10_layCuts_148 (by decide) (Nat.le_of_ble_eq_true rfl) rfl ?_
  show WP E ad 149 [some (.ref (ad 71)), some (.int g), some (.int z2)] [] t0
  exact L_layE l ad E σ hI hli t0 hZ g n K hmz C X 100 t0 z2 Fr.rf (fun _ _ => rfl) (fun j h1 h2 => by omega) (fun _ _ => rfl) hZ.1.2.2.1 (by omega) (by omega)
set_option maxRecDepth 100000 in
theorem L_layD (l : Launch) (ad : Nat → Nat) (E : Ev) (σ : Sg) (hI : IM σ.1) (hli : (σ.1 71 39).toInt = 0) (t1 : Sg) (hcb : 0 ≤ (t1.1 71 40).toInt ∧ (t1.1 71 40).toInt ≤ 1295) (hnb : ∀ j, 0 ≤ (t1.1 106 j).toInt ∧ (t1.1 106 j).toInt ≤ 5) (g : Int32) (K2 : ∀ υ : Sg, Fr [104] [] t1 υ → (∀ j, ¬ (4 * (t1.1 71 40).toNatClampNeg ≤ j ∧ j < 4 * (t1.1 71 40).toNatClampNeg + 4) → υ.1 104 j = t1.1 104 j) → (∀ q, q < 4 → υ.1 104 (4 * (t1.1 71 40).toNatClampNeg + q) = t1.1 106 q) → ∀ b2 : Int32, WP E ad 132 [some (.ref (ad 71)), some (.int g), some (.int b2)] [] υ) (C : Cx E l (rmk 2) 3 cX10_layCuts RX10) (X : Rx E ad none (oV (fun τ => IM τ.1 ∧ ¬ (τ.1 71 39).toInt = 0 ∧ Fr [103, 104, 105, 106] [(71, 39), (71, 40)] σ τ ∧ (¬ (σ.1 71 39).toInt = 0 → τ.1 71 40 = σ.1 71 40))))  : ∀ (n : Nat) (τ : Sg) (z : Int32), (Fr [104] [] t1 τ) → (∀ j, ¬ (4 * (t1.1 71 40).toNatClampNeg ≤ j ∧ j < 4 * (t1.1 71 40).toNatClampNeg + 4) → τ.1 104 j = t1.1 104 j) → (∀ q : Nat, (q : Int) < z.toInt → τ.1 104 (4 * (t1.1 71 40).toNatClampNeg + q) = t1.1 106 q) → (0 ≤ z.toInt ∧ z.toInt ≤ 4) → (4 - z.toInt).toNat < n → WP E ad 102 [some (.ref (ad 71)), some (.int g), some (.int z)] [] τ := by
  intro n
  induction n with
  | zero => intro τ z kF ko kq h0 hm9; exact absurd hm9 (Nat.not_lt_zero _)
  | succ n ih =>
    intro τ z kF ko kq h0 hm9
    have e40 : τ.1 71 40 = t1.1 71 40 := kF.f 71 40 (by decide) (by decide)
    have e40i : (τ.1 71 40).toInt = (t1.1 71 40).toInt := by rw [e40]
    refine s_iload_n C dX10_layCuts_102 rfl ?_
    refine s_iconst C dX10_layCuts_103 (by decide) (fun z1 tz1 => ?_)
    refine s_icmp_ge (tgt := 132) C dX10_layCuts_104 (by decide) (fun q2 => ?_) (fun q2 => ?_)
    · exact K2 τ kF ko (fun q hq => kq q (by omega)) z
    · refine s_aload_n C dX10_layCuts_107 rfl ?_
      refine s_getr (k := 42) (j := 104) C y71 fw_X10_113 rfl dX10_layCuts_108 ?_
      refine s_iconst C dX10_layCuts_111 (by decide) (fun z3 tz3 => ?_)
      refine s_aload_n C dX10_layCuts_112 rfl ?_
      refine s_get (k := 40) (x := (τ.1 71 40)) C y71 fw_X10_208 rfl rfl dX10_layCuts_113 ?_
      refine s_imulL C tz3 dX10_layCuts_116 (by omega) (fun z4 tz4 => ?_)
      refine s_iload_n C dX10_layCuts_117 rfl ?_
      refine s_iadd C dX10_layCuts_118 (by omega) (fun z5 tz5 => ?_)
      refine s_aload_n C dX10_layCuts_119 rfl ?_
      refine s_getr (k := 44) (j := 106) C y71 fw_X10_119 rfl dX10_layCuts_120 ?_
      refine s_iload_n C dX10_layCuts_123 rfl ?_
      refine s_iald (r := (τ.1 106 z.toNatClampNeg)) C y106 (by omega) rfl dX10_layCuts_124 ?_
      refine s_iast C y104 (by omega) dX10_layCuts_125 ?_
      refine s_iinc C dX10_layCuts_126 rfl (by decide) rfl (by decide) (by omega) (fun z6 tz6 => ?_)
      show WP E ad 129 [some (.ref (ad 71)), some (.int g), some (.int z6)] [] (sV τ 104 z5.toNatClampNeg (τ.1 106 z.toNatClampNeg))
      refine s_goto (tgt := 102) C dX10_layCuts_129 (by decide) ?_
      have hzn : (z.toNatClampNeg : Int) = z.toInt := by unfold Int32.toNatClampNeg; omega
      have hcn : ((t1.1 71 40).toNatClampNeg : Int) = (t1.1 71 40).toInt := by unfold Int32.toNatClampNeg; omega
      have hi : z5.toNatClampNeg = 4 * (t1.1 71 40).toNatClampNeg + z.toNatClampNeg := by unfold Int32.toNatClampNeg at *; omega
      have hv : (τ.1 106 z.toNatClampNeg) = t1.1 106 z.toNatClampNeg := by rw [kF.a 106 (by decide) (by decide)]
      exact ih (sV τ 104 z5.toNatClampNeg (τ.1 106 z.toNatClampNeg)) z6 (Fr.sV (Fr.tr Fr.rf (Fr.mo kF (by decide) (by decide))) (Or.inl (by decide))) (fun j hj => (pk_un (by omega)).trans (ko j hj)) (fun q hq => by show upd _ _ _ _ = _; by_cases e : q = z.toNatClampNeg; (rw [e, ← hi, pk_us]; exact hv); (rw [pk_un (by omega)]; exact kq q (by omega))) (by omega) (by omega)
set_option maxRecDepth 100000 in
theorem E_132 (l : Launch) (ad : Nat → Nat) (E : Ev) (σ : Sg) (hI : IM σ.1) (hli : (σ.1 71 39).toInt = 0) (C : Cx E l (rmk 2) 3 cX10_layCuts RX10) (X : Rx E ad none (oV (fun τ => IM τ.1 ∧ ¬ (τ.1 71 39).toInt = 0 ∧ Fr [103, 104, 105, 106] [(71, 39), (71, 40)] σ τ ∧ (¬ (σ.1 71 39).toInt = 0 → τ.1 71 40 = σ.1 71 40)))) (τ : Sg) (hA : LA σ τ) (x d : Int32) (hx : x.toInt = dg (nw τ) (σ.1 71 0).toInt.toNat) (hd : d.toInt = dg (nw τ) (σ.1 71 0).toInt.toNat) (hd0 : 0 ≤ d.toInt) (g : Int32) (n : Nat) (K : ∀ (υ : Sg) (g : Int32), (g.toInt = 0 ∧ IM υ.1 ∧ (υ.1 71 39).toInt = 1 ∧ Fr [103, 104, 105, 106] [(71, 39), (71, 40)] σ υ) ∨ (g.toInt = 1 ∧ LA σ υ ∧ (1296 - rk (nw υ) (σ.1 71 0).toInt.toNat).toNat < n) → WP E ad 63 [some (.ref (ad 71)), some (.int g), none] [] υ) (hmz : (1296 - rk (nw τ) (σ.1 71 0).toInt.toNat).toNat < n + 1) (υ : Sg) (kF : Fr [104] [] (sV (sV τ 103 (τ.1 71 40).toNatClampNeg x) 105 d.toNatClampNeg (τ.1 71 40)) υ) (ko : ∀ j, ¬ (4 * (τ.1 71 40).toNatClampNeg ≤ j ∧ j < 4 * (τ.1 71 40).toNatClampNeg + 4) → υ.1 104 j = τ.1 104 j) (kq : ∀ q, q < 4 → υ.1 104 (4 * (τ.1 71 40).toNatClampNeg + q) = τ.1 106 q) (b2 : Int32) : WP E ad 132 [some (.ref (ad 71)), some (.int g), some (.int b2)] [] υ := by
  have e40 : υ.1 71 40 = τ.1 71 40 := kF.f 71 40 (by decide) (by decide)
  have e40i : (υ.1 71 40).toInt = (τ.1 71 40).toInt := by rw [e40]
  have hcl := hA.2.2.1
  have hc0 := hA.1.2.2.2.2.2
  have hrb := rk_b (m := nw τ) hA.1.2.2.1 (k := (σ.1 71 0).toInt.toNat) (by have := hI.pr; omega)
  refine s_aload_n C dX10_layCuts_132 rfl ?_
  refine s_dup C dX10_layCuts_133 rfl ?_
  refine s_get (k := 40) (x := (υ.1 71 40)) C y71 fw_X10_208 rfl rfl dX10_layCuts_134 ?_
  refine s_iconst C dX10_layCuts_137 (by decide) (fun z1 tz1 => ?_)
  refine s_iadd C dX10_layCuts_138 (by omega) (fun z2 tz2 => ?_)
  refine s_put (k := 40) C y71 fw_X10_208 fp_9_40 rfl dX10_layCuts_139 ?_
  refine wp_le (lv' := [some (.ref (ad 71)), some (.int g), none]) ⟨rfl, ⟨rfl, trivial⟩⟩ ?_
  have hcn : (((τ.1 71 40).toNatClampNeg : Nat) : Int) = (τ.1 71 40).toInt := by unfold Int32.toNatClampNeg; omega
  have hdn : ((d.toNatClampNeg : Nat) : Int) = d.toInt := by unfold Int32.toNatClampNeg; omega
  have hfr : Fr [103, 104, 105] [(71, 40)] τ (sV υ 71 40 z2) := Fr.sV (Fr.tr (Fr.sV (Fr.sV Fr.rf (Or.inl (by decide))) (Or.inl (by decide))) (Fr.mo kF (by decide) (by decide))) (Or.inr (by decide))
  have hnwe : nw (sV υ 71 40 z2) = nw τ := by unfold nw; rw [hfr.a 106 (by decide) (by decide)]
  refine E_lay l ad E σ hI hli C X (sV υ 71 40 z2) (la_add hI hA (c := (τ.1 71 40).toNatClampNeg) (d := d.toNatClampNeg) hcn (by rw [hdn, hd]) hfr (by show Int32.toInt z2 = _; omega) (kF.a 103 (by decide) (by decide)) (by rw [hx, hdn, hd]) (kF.a 105 (by decide) (by decide)) (by omega) ko kq) g n K ?_
  rw [hnwe]; exact hmz
set_option maxRecDepth 100000 in
theorem L_layC (l : Launch) (ad : Nat → Nat) (E : Ev) (σ : Sg) (hI : IM σ.1) (hli : (σ.1 71 39).toInt = 0) (C : Cx E l (rmk 2) 3 cX10_layCuts RX10) (X : Rx E ad none (oV (fun τ => IM τ.1 ∧ ¬ (τ.1 71 39).toInt = 0 ∧ Fr [103, 104, 105, 106] [(71, 39), (71, 40)] σ τ ∧ (¬ (σ.1 71 39).toInt = 0 → τ.1 71 40 = σ.1 71 40)))) : ∀ (n : Nat) (τ : Sg) (g : Int32), (g.toInt = 0 ∧ IM τ.1 ∧ (τ.1 71 39).toInt = 1 ∧ Fr [103, 104, 105, 106] [(71, 39), (71, 40)] σ τ) ∨ (g.toInt = 1 ∧ LA σ τ ∧ (1296 - rk (nw τ) (σ.1 71 0).toInt.toNat).toNat < n) → WP E ad 63 [some (.ref (ad 71)), some (.int g), none] [] τ := by
  intro n
  induction n with
  | zero =>
    intro τ g hh
    rcases hh with hh | hh
    · refine s_iload_n C dX10_layCuts_63 rfl ?_
      refine s_if_eq (tgt := 208) C dX10_layCuts_64 (by decide) (fun q2 => ?_) (fun q2 => ?_)
      · exact s_vret C X dX10_layCuts_208 ⟨hh.2.1, by omega, hh.2.2.2, fun x => absurd hli x⟩
      · omega
    · exact absurd hh.2.2 (Nat.not_lt_zero _)
  | succ n ih =>
    intro τ g hh
    refine s_iload_n C dX10_layCuts_63 rfl ?_
    refine s_if_eq (tgt := 208) C dX10_layCuts_64 (by decide) (fun q1 => ?_) (fun q1 => ?_)
    · exact s_vret C X dX10_layCuts_208 (hh.elim (fun q => ⟨q.2.1, by omega, q.2.2.2, fun x => absurd hli x⟩) (fun q => by omega))
    · obtain ⟨hg, hA, hme⟩ := hh.resolve_left (fun q => by omega)
      have hb := hA.1
      have hpr := hI.pr
      have e0 : τ.1 71 0 = σ.1 71 0 := hb.1.f 71 0 (by decide) (by decide)
      have hpr2 : 1 ≤ (τ.1 71 0).toInt ∧ (τ.1 71 0).toInt ≤ 4 := by rw [e0]; exact hpr
      have hrb := rk_b (m := nw τ) hb.2.2.1 (k := (σ.1 71 0).toInt.toNat) (by omega)
      have hcl := hA.2.2.1
      have hc0 := hb.2.2.2.2.2
      have KH : ∀ (υ : Sg) (g : Int32), (g.toInt = 0 ∧ IM υ.1 ∧ (υ.1 71 39).toInt = 1 ∧ Fr [103, 104, 105, 106] [(71, 39), (71, 40)] σ υ) ∨ (g.toInt = 1 ∧ LA σ υ ∧ (1296 - rk (nw υ) (σ.1 71 0).toInt.toNat).toNat < n) → WP E ad 63 [some (.ref (ad 71)), some (.int g), none] [] υ := ih
      refine s_aload_n C dX10_layCuts_67 rfl ?_
      refine s_callVI (st := []) C (c_X10_holdsNow l ad τ (by exact hpr2) (by exact hb.2.2.1)) cv_X10_211 y71 rfl rfl rfl ⟨by decide, by decide⟩ (Nat.le_of_ble_eq_true rfl) dX10_layCuts_68 ?_
      intro r2 τ3 h4
      obtain ⟨eh4, h4⟩ := h4; replace eh4 := eh4.symm; subst eh4
      refine s_if_eq (tgt := 142) C dX10_layCuts_71 (by decide) (fun q5 => ?_) (fun q5 => ?_)
      · exact E_lay l ad E σ hI hli C X τ (la_skip hI hA h4.2 (by omega)) g n KH (by omega)
      · refine s_aload_n C dX10_layCuts_74 rfl ?_
        refine s_getr (k := 41) (j := 103) C y71 fw_X10_110 rfl dX10_layCuts_75 ?_
        refine s_aload_n C dX10_layCuts_78 rfl ?_
        refine s_get (k := 40) (x := (τ.1 71 40)) C y71 fw_X10_208 rfl rfl dX10_layCuts_79 ?_
        refine s_aload_n C dX10_layCuts_82 rfl ?_
        refine s_callVI (st := [.int (τ.1 71 40), .ref (ad 103)]) C (c_X10_digitsNow l ad τ (by exact hpr2) (by exact hb.2.2.1)) cv_X10_215 y71 rfl rfl rfl ⟨by decide, by decide⟩ (Nat.le_of_ble_eq_true rfl) dX10_layCuts_83 ?_
        intro r6 τ7 h8
        obtain ⟨eh8, h8⟩ := h8; replace eh8 := eh8.symm; subst eh8
        refine s_iast C y103 (by omega) dX10_layCuts_86 ?_
        refine s_aload_n C dX10_layCuts_87 rfl ?_
        refine s_getr (k := 43) (j := 105) C y71 fw_X10_116 rfl dX10_layCuts_88 ?_
        refine s_aload_n C dX10_layCuts_91 rfl ?_
        refine s_callVI (st := [.ref (ad 105)]) C (c_X10_digitsNow l ad (sV τ 103 ((τ.1 71 40).toNatClampNeg) r6) (by exact hpr2) (by exact hb.2.2.1)) cv_X10_215 y71 rfl rfl rfl ⟨by decide, by decide⟩ (Nat.le_of_ble_eq_true rfl) dX10_layCuts_92 ?_
        intro r9 τ10 h11
        obtain ⟨eh11, h11⟩ := h11; replace eh11 := eh11.symm; subst eh11
        refine s_aload_n C dX10_layCuts_95 rfl ?_
        refine s_get (k := 40) (x := (τ.1 71 40)) C y71 fw_X10_208 rfl rfl dX10_layCuts_96 ?_
        refine s_iast C y105 (by omega) dX10_layCuts_99 ?_
        refine s_iconst C dX10_layCuts_100 (by decide) (fun z12 tz12 => ?_)
        refine s_istore_n C dX10_layCuts_101 (by decide) (Nat.le_of_ble_eq_true rfl) rfl ?_
        show WP E ad 102 [some (.ref (ad 71)), some (.int g), some (.int z12)] [] (sV (sV τ 103 ((τ.1 71 40).toNatClampNeg) r6) 105 r9.toNatClampNeg (τ.1 71 40))
        have hx : r6.toInt = dg (nw τ) (σ.1 71 0).toInt.toNat := by rw [← e0]; exact h8.1
        have hd : r9.toInt = dg (nw τ) (σ.1 71 0).toInt.toNat := by rw [← e0]; exact h11.1
        exact L_layD l ad E σ hI hli (sV (sV τ 103 ((τ.1 71 40).toNatClampNeg) r6) 105 r9.toNatClampNeg (τ.1 71 40)) (by show 0 ≤ Int32.toInt (τ.1 71 40) ∧ Int32.toInt (τ.1 71 40) ≤ 1295; omega) hb.2.2.1 g (fun υ kF ko kq b2 => E_132 l ad E σ hI hli C X τ hA r6 r9 hx hd (by omega) g n KH (by omega) υ kF ko kq b2) C X 100 (sV (sV τ 103 ((τ.1 71 40).toNatClampNeg) r6) 105 r9.toNatClampNeg (τ.1 71 40)) z12 Fr.rf (fun _ _ => rfl) (fun q hq => by omega) (by omega) (by omega)
set_option maxRecDepth 100000 in
theorem L_lay43 (l : Launch) (ad : Nat → Nat) (E : Ev) (σ : Sg) (hI : IM σ.1) (hli : (σ.1 71 39).toInt = 0) (C : Cx E l (rmk 2) 3 cX10_layCuts RX10) (X : Rx E ad none (oV (fun τ => IM τ.1 ∧ ¬ (τ.1 71 39).toInt = 0 ∧ Fr [103, 104, 105, 106] [(71, 39), (71, 40)] σ τ ∧ (¬ (σ.1 71 39).toInt = 0 → τ.1 71 40 = σ.1 71 40))))  : ∀ (n : Nat) (τ : Sg) (z : Int32), (Fr [105, 106] [(71, 39), (71, 40)] σ τ) → ((τ.1 71 39).toInt = 1) → ((τ.1 71 40).toInt = 0) → (∀ j, (τ.1 105 j).toInt = -5) → (∀ j : Nat, (j : Int) < z.toInt → (τ.1 106 j).toInt = 0) → (0 ≤ z.toInt ∧ z.toInt ≤ 4) → (4 - z.toInt).toNat < n → WP E ad 43 [some (.ref (ad 71)), some (.int z), none] [] τ := by
  intro n
  induction n with
  | zero => intro τ z kF k39 k40 ka hz h0 hm9; exact absurd hm9 (Nat.not_lt_zero _)
  | succ n ih =>
    intro τ z kF k39 k40 ka hz h0 hm9
    refine s_iload_n C dX10_layCuts_43 rfl ?_
    refine s_iconst C dX10_layCuts_44 (by decide) (fun z1 tz1 => ?_)
    refine s_icmp_ge (tgt := 61) C dX10_layCuts_45 (by decide) (fun q2 => ?_) (fun q2 => ?_)
    · refine s_iconst C dX10_layCuts_61 (by decide) (fun z3 tz3 => ?_)
      refine s_istore_n C dX10_layCuts_62 (by decide) (Nat.le_of_ble_eq_true rfl) rfl ?_
      show WP E ad 63 [some (.ref (ad 71)), some (.int z3), none] [] τ
      refine wp_fill (i := 106) (c := 0) y106 (fun j hj => by rw [hz j (by omega)]; rfl) ?_
      have hla : LA σ (sR τ 106 (fun _ => 0)) := la_start hI (Fr.sR kF (by decide)) k39 k40 ka (fun j => rfl)
      exact L_layC l ad E σ hI hli C X 5000 (sR τ 106 (fun _ => 0)) z3 (Or.inr ⟨by omega, hla, by have := rk_b (m := nw (sR τ 106 (fun _ => 0))) hla.1.2.2.1 (k := (σ.1 71 0).toInt.toNat) (by have := hI.pr; omega); omega⟩)
    · refine s_aload_n C dX10_layCuts_48 rfl ?_
      refine s_getr (k := 44) (j := 106) C y71 fw_X10_119 rfl dX10_layCuts_49 ?_
      refine s_iload_n C dX10_layCuts_52 rfl ?_
      refine s_iconst C dX10_layCuts_53 (by decide) (fun z4 tz4 => ?_)
      refine s_iast C y106 (by omega) dX10_layCuts_54 ?_
      refine s_iinc C dX10_layCuts_55 rfl (by decide) rfl (by decide) (by omega) (fun z5 tz5 => ?_)
      show WP E ad 58 [some (.ref (ad 71)), some (.int z5), none] [] (sV τ 106 z.toNatClampNeg z4)
      refine s_goto (tgt := 43) C dX10_layCuts_58 (by decide) ?_
      exact ih (sV τ 106 z.toNatClampNeg z4) z5 (Fr.sV (Fr.tr Fr.rf (Fr.mo kF (by decide) (by decide))) (Or.inl (by decide))) k39 k40 ka (up_z hz (by omega) (by omega) (by omega)) (by omega) (by omega)
set_option maxRecDepth 100000 in
theorem L_lay20 (l : Launch) (ad : Nat → Nat) (E : Ev) (σ : Sg) (hI : IM σ.1) (hli : (σ.1 71 39).toInt = 0) (C : Cx E l (rmk 2) 3 cX10_layCuts RX10) (X : Rx E ad none (oV (fun τ => IM τ.1 ∧ ¬ (τ.1 71 39).toInt = 0 ∧ Fr [103, 104, 105, 106] [(71, 39), (71, 40)] σ τ ∧ (¬ (σ.1 71 39).toInt = 0 → τ.1 71 40 = σ.1 71 40))))  : ∀ (n : Nat) (τ : Sg) (z : Int32), (Fr [105, 106] [(71, 39), (71, 40)] σ τ) → ((τ.1 71 39).toInt = 1) → ((τ.1 71 40).toInt = 0) → (∀ j : Nat, (j : Int) < z.toInt → (τ.1 105 j).toInt = -5) → (0 ≤ z.toInt ∧ z.toInt ≤ 6000) → (6000 - z.toInt).toNat < n → WP E ad 20 [some (.ref (ad 71)), some (.int z), none] [] τ := by
  intro n
  induction n with
  | zero => intro τ z kF k39 k40 hz h0 hm9; exact absurd hm9 (Nat.not_lt_zero _)
  | succ n ih =>
    intro τ z kF k39 k40 hz h0 hm9
    refine s_iload_n C dX10_layCuts_20 rfl ?_
    refine s_sipush C dX10_layCuts_21 (by decide) (fun z1 tz1 => ?_)
    refine s_icmp_ge (tgt := 41) C dX10_layCuts_24 (by decide) (fun q2 => ?_) (fun q2 => ?_)
    · refine s_iconst C dX10_layCuts_41 (by decide) (fun z3 tz3 => ?_)
      refine s_istore_n C dX10_layCuts_42 (by decide) (Nat.le_of_ble_eq_true rfl) rfl ?_
      show WP E ad 43 [some (.ref (ad 71)), some (.int z3), none] [] τ
      refine wp_fill (i := 105) (c := -5) y105 (fun j hj => by rw [hz j (by omega)]; rfl) ?_
      exact L_lay43 l ad E σ hI hli C X 100 (sR τ 105 (fun _ => -5)) z3 (Fr.sR kF (by decide)) k39 k40 (fun j => rfl) (fun j hj => by omega) (by omega) (by omega)
    · refine s_aload_n C dX10_layCuts_27 rfl ?_
      refine s_getr (k := 43) (j := 105) C y71 fw_X10_116 rfl dX10_layCuts_28 ?_
      refine s_iload_n C dX10_layCuts_31 rfl ?_
      refine s_bipush C dX10_layCuts_32 (by decide) (fun z4 tz4 => ?_)
      refine s_iast C y105 (by omega) dX10_layCuts_34 ?_
      refine s_iinc C dX10_layCuts_35 rfl (by decide) rfl (by decide) (by omega) (fun z5 tz5 => ?_)
      show WP E ad 38 [some (.ref (ad 71)), some (.int z5), none] [] (sV τ 105 z.toNatClampNeg z4)
      refine s_goto (tgt := 20) C dX10_layCuts_38 (by decide) ?_
      exact ih (sV τ 105 z.toNatClampNeg z4) z5 (Fr.sV (Fr.tr Fr.rf (Fr.mo kF (by decide) (by decide))) (Or.inl (by decide))) k39 k40 (up_z hz (by omega) (by omega) (by omega)) (by omega) (by omega)
set_option maxRecDepth 100000 in
theorem c_X10_layCuts (l : Launch) (ad : Nat → Nat) (σ : Sg) (hI : IM σ.1) : Mt l yX10_layCuts cX10_layCuts 3 none 2 ad σ [.ref (ad 71)] (oV (fun τ => IM τ.1 ∧ ¬ (τ.1 71 39).toInt = 0 ∧ Fr [103, 104, 105, 106] [(71, 39), (71, 40)] σ τ ∧ (¬ (σ.1 71 39).toInt = 0 → τ.1 71 40 = σ.1 71 40))) := by
  refine Mt_intro (by decide +kernel) (by simp [lg_sl, Value.category]) (fun E C X => ?_)
  show WP E ad 0 [some (.ref (ad 71)), none, none] [] σ
  refine s_aload_n C dX10_layCuts_0 rfl ?_
  refine s_get (k := 39) (x := (σ.1 71 39)) C y71 fw_X10_181 rfl rfl dX10_layCuts_1 ?_
  refine s_if_eq (tgt := 8) C dX10_layCuts_4 (by decide) (fun q1 => ?_) (fun q1 => ?_)
  · refine s_aload_n C dX10_layCuts_8 rfl ?_
    refine s_iconst C dX10_layCuts_9 (by decide) (fun z2 tz2 => ?_)
    refine s_putz (k := 39) C y71 fw_X10_181 fp_9_39 rfl (by omega) dX10_layCuts_10 ?_
    refine s_aload_n C dX10_layCuts_13 rfl ?_
    refine s_iconst C dX10_layCuts_14 (by decide) (fun z3 tz3 => ?_)
    refine s_put (k := 40) C y71 fw_X10_208 fp_9_40 rfl dX10_layCuts_15 ?_
    refine s_iconst C dX10_layCuts_18 (by decide) (fun z4 tz4 => ?_)
    refine s_istore_n C dX10_layCuts_19 (by decide) (Nat.le_of_ble_eq_true rfl) rfl ?_
    show WP E ad 20 [some (.ref (ad 71)), some (.int z4), none] [] (sV (sV σ 71 39 z2) 71 40 z3)
    exact L_lay20 l ad E σ hI (by omega) C X 10000 (sV (sV σ 71 39 z2) 71 40 z3) z4 (Fr.sV (Fr.sV Fr.rf (Or.inr (by decide))) (Or.inr (by decide))) (by show Int32.toInt z2 = 1; omega) (by show Int32.toInt z3 = 0; omega) (fun j hj => by omega) (by omega) (by omega)
  · exact s_vret C X dX10_layCuts_7 ⟨hI, by omega, Fr.rf, fun _ => rfl⟩
