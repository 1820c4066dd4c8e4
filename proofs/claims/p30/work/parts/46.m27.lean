def EO (f : Nat → Int32) (e : Nat) : Prop := (∀ q : Nat, q < 4 → (f (4 * e + q)).toInt = 9) ∨ (∀ q : Nat, q < 4 → 0 ≤ (f (4 * e + q)).toInt ∧ (f (4 * e + q)).toInt ≤ 5)
def EL (f : Nat → Int32) : Prop := ∀ e : Nat, e < 20 → EO f e
def EP (f : Nat → Int32) (E : Nat) (z : Int) : Prop := (∀ e : Nat, e < 20 → e ≠ E → EO f e) ∧ ∀ q : Nat, q < 4 → 0 ≤ (f (4 * E + q)).toInt ∧ (f (4 * E + q)).toInt ≤ 9 ∧ ((q : Int) < z → (f (4 * E + q)).toInt ≤ 5)
theorem ep_start {f : Nat → Int32} {E : Nat} {z : Int} (h : EL f) (hE : E < 20) (hz : z ≤ 0) : EP f E z := ⟨fun e he _ => h e he, fun q hq => by
  rcases h E hE with g | g
  · have := g q hq; omega
  · have := g q hq; omega⟩
theorem ep_end {f : Nat → Int32} {E : Nat} {z : Int} (h : EP f E z) (hz : 4 ≤ z) : EL f := fun e he => by
  by_cases q : e = E
  · subst q; exact Or.inr (fun q hq => by have := h.2 q hq; omega)
  · exact h.1 e he q
theorem ep_step {f : Nat → Int32} {E i : Nat} {z z' x : Int32} (h : EP f E z.toInt) (hi : i = 4 * E + z.toNatClampNeg) (h0 : 0 ≤ z.toInt ∧ z.toInt < 4) (hz : z'.toInt = z.toInt + 1) (hx : 0 ≤ x.toInt ∧ x.toInt ≤ 5) : EP (upd f i x) E z'.toInt := by
  have hzn : (z.toNatClampNeg : Int) = z.toInt := by unfold Int32.toNatClampNeg; omega
  refine ⟨fun e he hne => ?_, fun q hq => ?_⟩
  · have e4 : ∀ q, q < 4 → upd f i x (4 * e + q) = f (4 * e + q) := fun q hq => pk_un (by omega)
    rcases h.1 e he hne with g | g
    · exact Or.inl (fun q hq => by rw [e4 q hq]; exact g q hq)
    · exact Or.inr (fun q hq => by rw [e4 q hq]; exact g q hq)
  · by_cases e : q = z.toNatClampNeg
    · rw [e, ← hi, pk_us]; omega
    · rw [pk_un (by omega)]
      have := h.2 q hq
      omega
set_option maxHeartbeats 10000000 in
set_option maxRecDepth 100000 in
theorem L_layLeast120 (l : Launch) (ad : Nat → Nat) (E : Ev) (σ : Sg) (c i : Int32) (hi : 0 ≤ i.toInt ∧ i.toInt ≤ 1295) (p : Int32) (hp : 0 ≤ p.toInt ∧ p.toInt ≤ 3) (k : Int32) (hk : 1 ≤ k.toInt ∧ k.toInt ≤ 5) (C : Cx E l (rmk 7) 7 cX10_layLeast RX10) (X : Rx E ad none (oV (fun τ => IM τ.1 ∧ ¬ (τ.1 71 39).toInt = 0 ∧ Fr [103, 104, 105, 106, 110, 111, 112, 113, 115, 116] [(71, 39), (71, 40), (71, 47), (71, 53), (71, 55)] σ τ ∧ EL (τ.1 115)))) (K : ∀ (υ : Sg) (k2 : Int32), Fr [103, 104, 105, 106, 110, 111, 112, 113, 115, 116] [(71, 39), (71, 40), (71, 47), (71, 53), (71, 55)] σ υ → IM υ.1 → ¬ (υ.1 71 39).toInt = 0 → EL (υ.1 115) → k2.toInt = k.toInt + 1 → WP E ad 102 [some (.ref (ad 71)), some (.int c), some (.int i), some (.int p), some (.int k2), none, none] [] υ) : ∀ (n : Nat) (τ : Sg) (z : Int32), (Fr [103, 104, 105, 106, 110, 111, 112, 113, 115, 116] [(71, 39), (71, 40), (71, 47), (71, 53), (71, 55)] σ τ) → (IM τ.1) → (¬ (τ.1 71 39).toInt = 0) → (EP (τ.1 115) (5 * p.toInt + k.toInt - 1).toNat z.toInt) → (0 ≤ z.toInt) → (4 - z.toInt).toNat < n → WP E ad 120 [some (.ref (ad 71)), some (.int c), some (.int i), some (.int p), some (.int k), some (.int z), none] [] τ := by
  intro n
  induction n with
  | zero => intro τ z kF kI hL hP h0 hm9; exact absurd hm9 (Nat.not_lt_zero _)
  | succ n ih =>
    intro τ z kF kI hL hP h0 hm9
    have hcb := kI.cu.1
    refine s_iload C dX10_layLeast_120 rfl ?_
    refine s_iconst C dX10_layLeast_122 (by decide) (fun z1 tz1 => ?_)
    refine s_icmp_ge (tgt := 173) C dX10_layLeast_123 (by decide) (fun q2 => ?_) (fun q2 => ?_)
    · refine s_iinc C dX10_layLeast_173 rfl (by decide) rfl (by decide) (by omega) (fun z3 tz3 => ?_)
      show WP E ad 176 [some (.ref (ad 71)), some (.int c), some (.int i), some (.int p), some (.int z3), some (.int z), none] [] τ
      refine s_goto (tgt := 102) C dX10_layLeast_176 (by decide) ?_
      refine wp_le (lv' := [some (.ref (ad 71)), some (.int c), some (.int i), some (.int p), some (.int z3), none, none]) ⟨rfl, ⟨rfl, ⟨rfl, ⟨rfl, ⟨rfl, trivial⟩⟩⟩⟩⟩ ?_
      exact K τ z3 (Fr.tr Fr.rf (Fr.mo kF (by decide) (by decide))) kI hL (ep_end hP (by omega)) (by omega)
    · refine s_iconst C dX10_layLeast_126 (by decide) (fun z4 tz4 => ?_)
      refine s_iload_n C dX10_layLeast_127 rfl ?_
      refine s_iload C dX10_layLeast_128 rfl ?_
      refine s_callSI (st := [.int z4]) C (c_X10_at l ad τ p k (by omega) (by omega)) cv_X10_189 rfl rfl ⟨by decide, by decide⟩ (Nat.le_of_ble_eq_true rfl) dX10_layLeast_130 ?_
      intro r5 τ6 h7
      obtain ⟨eh7, h7⟩ := h7; replace eh7 := eh7.symm; subst eh7
      refine s_imulL C tz4 dX10_layLeast_133 (by omega) (fun z8 tz8 => ?_)
      refine s_iload C dX10_layLeast_134 rfl ?_
      refine s_iadd C dX10_layLeast_136 (by omega) (fun z9 tz9 => ?_)
      refine s_istore C dX10_layLeast_137 (by decide) (Nat.le_of_ble_eq_true rfl) rfl ?_
      show WP E ad 139 [some (.ref (ad 71)), some (.int c), some (.int i), some (.int p), some (.int k), some (.int z), some (.int z9)] [] τ
      refine s_aload_n C dX10_layLeast_139 rfl ?_
      refine s_getr (k := 57) (j := 115) C y71 fw_X10_147 rfl dX10_layLeast_140 ?_
      refine s_iload C dX10_layLeast_143 rfl ?_
      refine s_aload_n C dX10_layLeast_145 rfl ?_
      refine s_getr (k := 57) (j := 115) C y71 fw_X10_147 rfl dX10_layLeast_146 ?_
      refine s_iload C dX10_layLeast_149 rfl ?_
      refine s_iald (r := (τ.1 115 z9.toNatClampNeg)) C y115 (by omega) rfl dX10_layLeast_151 ?_
      refine s_aload_n C dX10_layLeast_152 rfl ?_
      refine s_getr (k := 42) (j := 104) C y71 fw_X10_113 rfl dX10_layLeast_153 ?_
      refine s_iconst C dX10_layLeast_156 (by decide) (fun z10 tz10 => ?_)
      refine s_iload_n C dX10_layLeast_157 rfl ?_
      refine s_imulL C tz10 dX10_layLeast_158 (by omega) (fun z11 tz11 => ?_)
      refine s_iload C dX10_layLeast_159 rfl ?_
      refine s_iadd C dX10_layLeast_161 (by omega) (fun z12 tz12 => ?_)
      refine s_iald (r := (τ.1 104 z12.toNatClampNeg)) C y104 (by omega) rfl dX10_layLeast_162 ?_
      have b13 := kI.cu.2.1 z12.toNatClampNeg
      refine s_mmin (idx := 232) C (mw 1295 (by decide +kernel) rfl) (mw 927 (by decide +kernel) rfl) (mw 73 (by decide +kernel) rfl) (mw 928 (by decide +kernel) rfl) (by decide) (Nat.le_of_ble_eq_true rfl) dX10_layLeast_163 (fun z14 tz14 => ?_)
      refine s_iast C y115 (by omega) dX10_layLeast_166 ?_
      refine s_iinc C dX10_layLeast_167 rfl (by decide) rfl (by decide) (by omega) (fun z15 tz15 => ?_)
      show WP E ad 170 [some (.ref (ad 71)), some (.int c), some (.int i), some (.int p), some (.int k), some (.int z15), some (.int z9)] [] (sV τ 115 z9.toNatClampNeg z14)
      refine s_goto (tgt := 120) C dX10_layLeast_170 (by decide) ?_
      refine wp_le (lv' := [some (.ref (ad 71)), some (.int c), some (.int i), some (.int p), some (.int k), some (.int z15), none]) ⟨rfl, ⟨rfl, ⟨rfl, ⟨rfl, ⟨rfl, ⟨rfl, trivial⟩⟩⟩⟩⟩⟩ ?_
      have hE := hP.2 z.toNatClampNeg (by unfold Int32.toNatClampNeg; omega)
      have hi9 : z9.toNatClampNeg = 4 * (5 * p.toInt + k.toInt - 1).toNat + z.toNatClampNeg := by unfold Int32.toNatClampNeg; omega
      rw [← hi9] at hE
      exact ih (sV τ 115 z9.toNatClampNeg z14) z15 (Fr.sV (Fr.tr Fr.rf (Fr.mo kF (by decide) (by decide))) (Or.inl (by decide))) kI hL (ep_step hP hi9 (by omega) (by omega) (by omega)) (by omega) (by omega)
set_option maxHeartbeats 10000000 in
set_option maxRecDepth 100000 in
theorem L_layLeast102 (l : Launch) (ad : Nat → Nat) (E : Ev) (σ : Sg) (c i : Int32) (hi : 0 ≤ i.toInt ∧ i.toInt ≤ 1295) (p : Int32) (hp : 0 ≤ p.toInt ∧ p.toInt ≤ 3) (C : Cx E l (rmk 7) 7 cX10_layLeast RX10) (X : Rx E ad none (oV (fun τ => IM τ.1 ∧ ¬ (τ.1 71 39).toInt = 0 ∧ Fr [103, 104, 105, 106, 110, 111, 112, 113, 115, 116] [(71, 39), (71, 40), (71, 47), (71, 53), (71, 55)] σ τ ∧ EL (τ.1 115)))) (K : ∀ (υ : Sg) (p2 : Int32), Fr [103, 104, 105, 106, 110, 111, 112, 113, 115, 116] [(71, 39), (71, 40), (71, 47), (71, 53), (71, 55)] σ υ → IM υ.1 → ¬ (υ.1 71 39).toInt = 0 → EL (υ.1 115) → p2.toInt = p.toInt + 1 → WP E ad 60 [some (.ref (ad 71)), some (.int c), some (.int i), some (.int p2), none, none, none] [] υ) : ∀ (n : Nat) (τ : Sg) (z : Int32), (Fr [103, 104, 105, 106, 110, 111, 112, 113, 115, 116] [(71, 39), (71, 40), (71, 47), (71, 53), (71, 55)] σ τ) → (IM τ.1) → (¬ (τ.1 71 39).toInt = 0) → (EL (τ.1 115)) → (1 ≤ z.toInt) → (6 - z.toInt).toNat < n → WP E ad 102 [some (.ref (ad 71)), some (.int c), some (.int i), some (.int p), some (.int z), none, none] [] τ := by
  intro n
  induction n with
  | zero => intro τ z kF kI hL hE h0 hm9; exact absurd hm9 (Nat.not_lt_zero _)
  | succ n ih =>
    intro τ z kF kI hL hE h0 hm9
    have hcb := kI.cu.1
    refine s_iload C dX10_layLeast_102 rfl ?_
    refine s_aload_n C dX10_layLeast_104 rfl ?_
    refine s_getr (k := 42) (j := 104) C y71 fw_X10_113 rfl dX10_layLeast_105 ?_
    refine s_iconst C dX10_layLeast_108 (by decide) (fun z1 tz1 => ?_)
    refine s_iload_n C dX10_layLeast_109 rfl ?_
    refine s_imulL C tz1 dX10_layLeast_110 (by omega) (fun z2 tz2 => ?_)
    refine s_iload_n C dX10_layLeast_111 rfl ?_
    refine s_iadd C dX10_layLeast_112 (by omega) (fun z3 tz3 => ?_)
    refine s_iald (r := (τ.1 104 z3.toNatClampNeg)) C y104 (by omega) rfl dX10_layLeast_113 ?_
    have b4 := kI.cu.2.1 z3.toNatClampNeg
    refine s_icmp_gt (tgt := 179) C dX10_layLeast_114 (by decide) (fun q5 => ?_) (fun q5 => ?_)
    · refine s_iinc C dX10_layLeast_179 rfl (by decide) rfl (by decide) (by omega) (fun z6 tz6 => ?_)
      show WP E ad 182 [some (.ref (ad 71)), some (.int c), some (.int i), some (.int z6), some (.int z), none, none] [] τ
      refine s_goto (tgt := 60) C dX10_layLeast_182 (by decide) ?_
      refine wp_le (lv' := [some (.ref (ad 71)), some (.int c), some (.int i), some (.int z6), none, none, none]) ⟨rfl, ⟨rfl, ⟨rfl, ⟨rfl, trivial⟩⟩⟩⟩ ?_
      exact K τ z6 (Fr.tr Fr.rf (Fr.mo kF (by decide) (by decide))) kI hL hE (by omega)
    · refine s_iconst C dX10_layLeast_117 (by decide) (fun z7 tz7 => ?_)
      refine s_istore C dX10_layLeast_118 (by decide) (Nat.le_of_ble_eq_true rfl) rfl ?_
      show WP E ad 120 [some (.ref (ad 71)), some (.int c), some (.int i), some (.int p), some (.int z), some (.int z7), none] [] τ
      exact L_layLeast120 l ad E σ c i hi p hp z (by omega) C X (fun υ k2 h1 h2 h3 h4 h5 => ih υ k2 h1 h2 h3 h4 (by omega) (by omega)) 100 τ z7 (Fr.tr Fr.rf (Fr.mo kF (by decide) (by decide))) kI hL (ep_start hE (by omega) (by omega)) (by omega) (by omega)
set_option maxHeartbeats 10000000 in
set_option maxRecDepth 100000 in
theorem L_layLeast60 (l : Launch) (ad : Nat → Nat) (E : Ev) (σ : Sg) (c i : Int32) (hi : 0 ≤ i.toInt ∧ i.toInt ≤ 1295) (C : Cx E l (rmk 7) 7 cX10_layLeast RX10) (X : Rx E ad none (oV (fun τ => IM τ.1 ∧ ¬ (τ.1 71 39).toInt = 0 ∧ Fr [103, 104, 105, 106, 110, 111, 112, 113, 115, 116] [(71, 39), (71, 40), (71, 47), (71, 53), (71, 55)] σ τ ∧ EL (τ.1 115)))) (K : ∀ (υ : Sg) (i2 : Int32), Fr [103, 104, 105, 106, 110, 111, 112, 113, 115, 116] [(71, 39), (71, 40), (71, 47), (71, 53), (71, 55)] σ υ → IM υ.1 → ¬ (υ.1 71 39).toInt = 0 → EL (υ.1 115) → i2.toInt = i.toInt + 1 → WP E ad 50 [some (.ref (ad 71)), some (.int c), some (.int i2), none, none, none, none] [] υ) : ∀ (n : Nat) (τ : Sg) (z : Int32), (Fr [103, 104, 105, 106, 110, 111, 112, 113, 115, 116] [(71, 39), (71, 40), (71, 47), (71, 53), (71, 55)] σ τ) → (IM τ.1) → (¬ (τ.1 71 39).toInt = 0) → (EL (τ.1 115)) → (0 ≤ z.toInt) → (4 - z.toInt).toNat < n → WP E ad 60 [some (.ref (ad 71)), some (.int c), some (.int i), some (.int z), none, none, none] [] τ := by
  intro n
  induction n with
  | zero => intro τ z kF kI hL hE h0 hm9; exact absurd hm9 (Nat.not_lt_zero _)
  | succ n ih =>
    intro τ z kF kI hL hE h0 hm9
    have hcb := kI.cu.1
    refine s_iload_n C dX10_layLeast_60 rfl ?_
    refine s_iconst C dX10_layLeast_61 (by decide) (fun z1 tz1 => ?_)
    refine s_icmp_ge (tgt := 185) C dX10_layLeast_62 (by decide) (fun q2 => ?_) (fun q2 => ?_)
    · refine s_iinc C dX10_layLeast_185 rfl (by decide) rfl (by decide) (by omega) (fun z3 tz3 => ?_)
      show WP E ad 188 [some (.ref (ad 71)), some (.int c), some (.int z3), some (.int z), none, none, none] [] τ
      refine s_goto (tgt := 50) C dX10_layLeast_188 (by decide) ?_
      refine wp_le (lv' := [some (.ref (ad 71)), some (.int c), some (.int z3), none, none, none, none]) ⟨rfl, ⟨rfl, ⟨rfl, trivial⟩⟩⟩ ?_
      exact K τ z3 (Fr.tr Fr.rf (Fr.mo kF (by decide) (by decide))) kI hL hE (by omega)
    · refine s_aload_n C dX10_layLeast_65 rfl ?_
      refine s_getr (k := 54) (j := 113) C y71 fw_X10_141 rfl dX10_layLeast_66 ?_
      refine s_iload_n C dX10_layLeast_69 rfl ?_
      refine s_zald (r := (τ.1 113 i.toNatClampNeg)) C y113 (by omega) rfl dX10_layLeast_70 ?_
      refine s_if_eq (tgt := 185) C dX10_layLeast_71 (by decide) (fun q4 => ?_) (fun q4 => ?_)
      · refine s_iinc C dX10_layLeast_185 rfl (by decide) rfl (by decide) (by omega) (fun z5 tz5 => ?_)
        show WP E ad 188 [some (.ref (ad 71)), some (.int c), some (.int z5), some (.int z), none, none, none] [] τ
        refine s_goto (tgt := 50) C dX10_layLeast_188 (by decide) ?_
        refine wp_le (lv' := [some (.ref (ad 71)), some (.int c), some (.int z5), none, none, none, none]) ⟨rfl, ⟨rfl, ⟨rfl, trivial⟩⟩⟩ ?_
        exact K τ z5 (Fr.tr Fr.rf (Fr.mo kF (by decide) (by decide))) kI hL hE (by omega)
      · refine s_aload_n C dX10_layLeast_74 rfl ?_
        refine s_getr (k := 58) (j := 116) C y71 fw_X10_150 rfl dX10_layLeast_75 ?_
        refine s_iload_n C dX10_layLeast_78 rfl ?_
        refine s_aload_n C dX10_layLeast_79 rfl ?_
        refine s_getr (k := 58) (j := 116) C y71 fw_X10_150 rfl dX10_layLeast_80 ?_
        refine s_iload_n C dX10_layLeast_83 rfl ?_
        refine s_iald (r := (τ.1 116 z.toNatClampNeg)) C y116 (by omega) rfl dX10_layLeast_84 ?_
        refine s_aload_n C dX10_layLeast_85 rfl ?_
        refine s_getr (k := 42) (j := 104) C y71 fw_X10_113 rfl dX10_layLeast_86 ?_
        refine s_iconst C dX10_layLeast_89 (by decide) (fun z6 tz6 => ?_)
        refine s_iload_n C dX10_layLeast_90 rfl ?_
        refine s_imulL C tz6 dX10_layLeast_91 (by omega) (fun z7 tz7 => ?_)
        refine s_iload_n C dX10_layLeast_92 rfl ?_
        refine s_iadd C dX10_layLeast_93 (by omega) (fun z8 tz8 => ?_)
        refine s_iald (r := (τ.1 104 z8.toNatClampNeg)) C y104 (by omega) rfl dX10_layLeast_94 ?_
        have b9 := kI.cu.2.1 z8.toNatClampNeg
        refine s_mmin (idx := 232) C (mw 1295 (by decide +kernel) rfl) (mw 927 (by decide +kernel) rfl) (mw 73 (by decide +kernel) rfl) (mw 928 (by decide +kernel) rfl) (by decide) (Nat.le_of_ble_eq_true rfl) dX10_layLeast_95 (fun z10 tz10 => ?_)
        refine s_iast C y116 (by omega) dX10_layLeast_98 ?_
        refine s_iconst C dX10_layLeast_99 (by decide) (fun z11 tz11 => ?_)
        refine s_istore C dX10_layLeast_100 (by decide) (Nat.le_of_ble_eq_true rfl) rfl ?_
        show WP E ad 102 [some (.ref (ad 71)), some (.int c), some (.int i), some (.int z), some (.int z11), none, none] [] (sV τ 116 z.toNatClampNeg z10)
        exact L_layLeast102 l ad E σ c i hi z (by omega) C X (fun υ p2 h1 h2 h3 h4 h5 => ih υ p2 h1 h2 h3 h4 (by omega) (by omega)) 100 (sV τ 116 z.toNatClampNeg z10) z11 (Fr.sV (Fr.tr Fr.rf (Fr.mo kF (by decide) (by decide))) (Or.inl (by decide))) kI hL hE (by omega) (by omega)
set_option maxHeartbeats 10000000 in
set_option maxRecDepth 100000 in
theorem L_layLeast50 (l : Launch) (ad : Nat → Nat) (E : Ev) (σ : Sg) (c : Int32) (C : Cx E l (rmk 7) 7 cX10_layLeast RX10) (X : Rx E ad none (oV (fun τ => IM τ.1 ∧ ¬ (τ.1 71 39).toInt = 0 ∧ Fr [103, 104, 105, 106, 110, 111, 112, 113, 115, 116] [(71, 39), (71, 40), (71, 47), (71, 53), (71, 55)] σ τ ∧ EL (τ.1 115))))  : ∀ (n : Nat) (τ : Sg) (z : Int32), (Fr [103, 104, 105, 106, 110, 111, 112, 113, 115, 116] [(71, 39), (71, 40), (71, 47), (71, 53), (71, 55)] σ τ) → (IM τ.1) → (¬ (τ.1 71 39).toInt = 0) → (EL (τ.1 115)) → (0 ≤ z.toInt) → (1296 - z.toInt).toNat < n → WP E ad 50 [some (.ref (ad 71)), some (.int c), some (.int z), none, none, none, none] [] τ := by
  intro n
  induction n with
  | zero => intro τ z kF kI hL hE h0 hm9; exact absurd hm9 (Nat.not_lt_zero _)
  | succ n ih =>
    intro τ z kF kI hL hE h0 hm9
    have hcb := kI.cu.1
    refine s_iload_n C dX10_layLeast_50 rfl ?_
    refine s_aload_n C dX10_layLeast_51 rfl ?_
    refine s_get (k := 40) (x := (τ.1 71 40)) C y71 fw_X10_208 rfl rfl dX10_layLeast_52 ?_
    refine s_icmp_ge (tgt := 191) C dX10_layLeast_55 (by decide) (fun q1 => ?_) (fun q1 => ?_)
    · exact s_vret C X dX10_layLeast_191 ⟨kI, hL, kF, hE⟩
    · refine s_iconst C dX10_layLeast_58 (by decide) (fun z2 tz2 => ?_)
      refine s_istore_n C dX10_layLeast_59 (by decide) (Nat.le_of_ble_eq_true rfl) rfl ?_
      show WP E ad 60 [some (.ref (ad 71)), some (.int c), some (.int z), some (.int z2), none, none, none] [] τ
      exact L_layLeast60 l ad E σ c z (by omega) C X (fun υ i2 h1 h2 h3 h4 h5 => ih υ i2 h1 h2 h3 h4 (by omega) (by omega)) 100 τ z2 (Fr.tr Fr.rf (Fr.mo kF (by decide) (by decide))) kI hL hE (by omega) (by omega)
set_option maxHeartbeats 10000000 in
set_option maxRecDepth 100000 in
theorem L_layLeast29 (l : Launch) (ad : Nat → Nat) (E : Ev) (σ : Sg) (c : Int32) (C : Cx E l (rmk 7) 7 cX10_layLeast RX10) (X : Rx E ad none (oV (fun τ => IM τ.1 ∧ ¬ (τ.1 71 39).toInt = 0 ∧ Fr [103, 104, 105, 106, 110, 111, 112, 113, 115, 116] [(71, 39), (71, 40), (71, 47), (71, 53), (71, 55)] σ τ ∧ EL (τ.1 115))))  : ∀ (n : Nat) (τ : Sg) (z : Int32), (Fr [103, 104, 105, 106, 110, 111, 112, 113, 115, 116] [(71, 39), (71, 40), (71, 47), (71, 53), (71, 55)] σ τ) → (IM τ.1) → (¬ (τ.1 71 39).toInt = 0) → (EL (τ.1 115)) → (0 ≤ z.toInt) → (4 - z.toInt).toNat < n → WP E ad 29 [some (.ref (ad 71)), some (.int c), some (.int z), none, none, none, none] [] τ := by
  intro n
  induction n with
  | zero => intro τ z kF kI hL hE h0 hm9; exact absurd hm9 (Nat.not_lt_zero _)
  | succ n ih =>
    intro τ z kF kI hL hE h0 hm9
    refine s_iload_n C dX10_layLeast_29 rfl ?_
    refine s_iconst C dX10_layLeast_30 (by decide) (fun z1 tz1 => ?_)
    refine s_icmp_ge (tgt := 48) C dX10_layLeast_31 (by decide) (fun q2 => ?_) (fun q2 => ?_)
    · refine s_iconst C dX10_layLeast_48 (by decide) (fun z3 tz3 => ?_)
      refine s_istore_n C dX10_layLeast_49 (by decide) (Nat.le_of_ble_eq_true rfl) rfl ?_
      show WP E ad 50 [some (.ref (ad 71)), some (.int c), some (.int z3), none, none, none, none] [] τ
      exact L_layLeast50 l ad E σ c C X 5000 τ z3 (Fr.tr Fr.rf (Fr.mo kF (by decide) (by decide))) kI hL hE (by omega) (by omega)
    · refine s_aload_n C dX10_layLeast_34 rfl ?_
      refine s_getr (k := 58) (j := 116) C y71 fw_X10_150 rfl dX10_layLeast_35 ?_
      refine s_iload_n C dX10_layLeast_38 rfl ?_
      refine s_bipush C dX10_layLeast_39 (by decide) (fun z4 tz4 => ?_)
      refine s_iast C y116 (by omega) dX10_layLeast_41 ?_
      refine s_iinc C dX10_layLeast_42 rfl (by decide) rfl (by decide) (by omega) (fun z5 tz5 => ?_)
      show WP E ad 45 [some (.ref (ad 71)), some (.int c), some (.int z5), none, none, none, none] [] (sV τ 116 z.toNatClampNeg z4)
      refine s_goto (tgt := 29) C dX10_layLeast_45 (by decide) ?_
      exact ih (sV τ 116 z.toNatClampNeg z4) z5 (Fr.sV (Fr.tr Fr.rf (Fr.mo kF (by decide) (by decide))) (Or.inl (by decide))) kI hL hE (by omega) (by omega)
set_option maxHeartbeats 10000000 in
set_option maxRecDepth 100000 in
theorem L_layLeast7 (l : Launch) (ad : Nat → Nat) (E : Ev) (σ : Sg) (c : Int32) (C : Cx E l (rmk 7) 7 cX10_layLeast RX10) (X : Rx E ad none (oV (fun τ => IM τ.1 ∧ ¬ (τ.1 71 39).toInt = 0 ∧ Fr [103, 104, 105, 106, 110, 111, 112, 113, 115, 116] [(71, 39), (71, 40), (71, 47), (71, 53), (71, 55)] σ τ ∧ EL (τ.1 115))))  : ∀ (n : Nat) (τ : Sg) (z : Int32), (Fr [103, 104, 105, 106, 110, 111, 112, 113, 115, 116] [(71, 39), (71, 40), (71, 47), (71, 53), (71, 55)] σ τ) → (IM τ.1) → (¬ (τ.1 71 39).toInt = 0) → (∀ j : Nat, (j : Int) < z.toInt → (τ.1 115 j).toInt = 9) → (0 ≤ z.toInt) → (80 - z.toInt).toNat < n → WP E ad 7 [some (.ref (ad 71)), some (.int c), some (.int z), none, none, none, none] [] τ := by
  intro n
  induction n with
  | zero => intro τ z kF kI hL hz h0 hm9; exact absurd hm9 (Nat.not_lt_zero _)
  | succ n ih =>
    intro τ z kF kI hL hz h0 hm9
    refine s_iload_n C dX10_layLeast_7 rfl ?_
    refine s_bipush C dX10_layLeast_8 (by decide) (fun z1 tz1 => ?_)
    refine s_icmp_ge (tgt := 27) C dX10_layLeast_10 (by decide) (fun q2 => ?_) (fun q2 => ?_)
    · refine s_iconst C dX10_layLeast_27 (by decide) (fun z3 tz3 => ?_)
      refine s_istore_n C dX10_layLeast_28 (by decide) (Nat.le_of_ble_eq_true rfl) rfl ?_
      show WP E ad 29 [some (.ref (ad 71)), some (.int c), some (.int z3), none, none, none, none] [] τ
      exact L_layLeast29 l ad E σ c C X 100 τ z3 (Fr.tr Fr.rf (Fr.mo kF (by decide) (by decide))) kI hL (fun e he => Or.inl (fun q hq => hz (4 * e + q) (by omega))) (by omega) (by omega)
    · refine s_aload_n C dX10_layLeast_13 rfl ?_
      refine s_getr (k := 57) (j := 115) C y71 fw_X10_147 rfl dX10_layLeast_14 ?_
      refine s_iload_n C dX10_layLeast_17 rfl ?_
      refine s_bipush C dX10_layLeast_18 (by decide) (fun z4 tz4 => ?_)
      refine s_iast C y115 (by omega) dX10_layLeast_20 ?_
      refine s_iinc C dX10_layLeast_21 rfl (by decide) rfl (by decide) (by omega) (fun z5 tz5 => ?_)
      show WP E ad 24 [some (.ref (ad 71)), some (.int c), some (.int z5), none, none, none, none] [] (sV τ 115 z.toNatClampNeg z4)
      refine s_goto (tgt := 7) C dX10_layLeast_24 (by decide) ?_
      exact ih (sV τ 115 z.toNatClampNeg z4) z5 (Fr.sV (Fr.tr Fr.rf (Fr.mo kF (by decide) (by decide))) (Or.inl (by decide))) kI hL (up_z hz (by omega) (by omega) (by omega)) (by omega) (by omega)
set_option maxHeartbeats 10000000 in
set_option maxRecDepth 100000 in
theorem c_X10_layLeast (l : Launch) (ad : Nat → Nat) (σ : Sg) (c : Int32) (hI : IM σ.1) (hc : 0 ≤ c.toInt ∧ c.toInt ≤ 2) (ht : 0 < (σ.1 84 c.toNatClampNeg).toInt) : Mt l yX10_layLeast cX10_layLeast 7 none 7 ad σ [.ref (ad 71), .int c] (oV (fun τ => IM τ.1 ∧ ¬ (τ.1 71 39).toInt = 0 ∧ Fr [103, 104, 105, 106, 110, 111, 112, 113, 115, 116] [(71, 39), (71, 40), (71, 47), (71, 53), (71, 55)] σ τ ∧ EL (τ.1 115))) := by
  refine Mt_intro (by decide +kernel) (by simp [lg_sl, Value.category]) (fun E C X => ?_)
  show WP E ad 0 [some (.ref (ad 71)), some (.int c), none, none, none, none, none] [] σ
  refine s_aload_n C dX10_layLeast_0 rfl ?_
  refine s_iload_n C dX10_layLeast_1 rfl ?_
  refine s_callVV (st := []) C (c_X10_layMet l ad σ c hI (by omega) (by omega)) cv_X10_301 y71 rfl rfl rfl ⟨by decide, by decide⟩ (Nat.le_of_ble_eq_true rfl) dX10_layLeast_2 ?_
  intro τ2 h3
  have hIτ2 := h3.1
  have hLτ2 := h3.2.1
  refine s_iconst C dX10_layLeast_5 (by decide) (fun z4 tz4 => ?_)
  refine s_istore_n C dX10_layLeast_6 (by decide) (Nat.le_of_ble_eq_true rfl) rfl ?_
  show WP E ad 7 [some (.ref (ad 71)), some (.int c), some (.int z4), none, none, none, none] [] τ2
  exact L_layLeast7 l ad E σ c C X 100 τ2 z4 (Fr.tr Fr.rf (Fr.mo h3.2.2 (by decide) (by decide))) hIτ2 hLτ2 (fun j hj => by omega) (by omega) (by omega)
set_option maxHeartbeats 10000000 in
set_option maxRecDepth 100000 in
theorem L_slice (l : Launch) (ad : Nat → Nat) (E : Ev) (σ τ : Sg) (kF : Fr [103, 104, 105, 106, 110, 111, 112, 113, 115, 116] [(71, 39), (71, 40), (71, 47), (71, 53), (71, 55)] σ τ) (kI : IM τ.1) (c k : Int32) (C : Cx E l (rmk 8) 5 cX10_slice RX10) (X : Rx E ad (some .int) (oI (fun r τ => IM τ.1 ∧ Fr [103, 104, 105, 106, 110, 111, 112, 113, 115, 116] [(71, 39), (71, 40), (71, 47), (71, 53), (71, 55)] σ τ ∧ True)))  : ∀ (n : Nat) (a : Int32) (z : Int32), (0 ≤ z.toInt) → (0 ≤ a.toInt ∧ a.toInt ≤ z.toInt) → (1296 - z.toInt).toNat < n → WP E ad 36 [some (.ref (ad 71)), some (.int c), some (.int k), some (.int a), some (.int z)] [] τ := by
  intro n
  induction n with
  | zero => intro a z h0 ha hm9; exact absurd hm9 (Nat.not_lt_zero _)
  | succ n ih =>
    intro a z h0 ha hm9
    have hcb := kI.cu.1
    refine s_iload C dX10_slice_36 rfl ?_
    refine s_aload_n C dX10_slice_38 rfl ?_
    refine s_get (k := 40) (x := (τ.1 71 40)) C y71 fw_X10_208 rfl rfl dX10_slice_39 ?_
    refine s_icmp_ge (tgt := 71) C dX10_slice_42 (by decide) (fun q1 => ?_) (fun q1 => ?_)
    · refine s_iload_n C dX10_slice_71 rfl ?_
      refine s_iconst C dX10_slice_72 (by decide) (fun z2 tz2 => ?_)
      refine s_icmp_ne (tgt := 80) C dX10_slice_73 (by decide) (fun q3 => ?_) (fun q3 => ?_)
      · refine s_bipush C dX10_slice_80 (by decide) (fun z4 tz4 => ?_)
        exact s_iret C X dX10_slice_82 ⟨kI, kF, trivial⟩
      · refine s_iload_n C dX10_slice_76 rfl ?_
        refine s_goto (tgt := 82) C dX10_slice_77 (by decide) ?_
        exact s_iret C X dX10_slice_82 ⟨kI, kF, trivial⟩
    · refine s_aload_n C dX10_slice_45 rfl ?_
      refine s_iload C dX10_slice_46 rfl ?_
      refine s_callVI (st := []) C (c_X10_isSliced l ad τ z kI (by omega)) cv_X10_314 y71 rfl rfl rfl ⟨by decide, by decide⟩ (Nat.le_of_ble_eq_true rfl) dX10_slice_48 ?_
      intro r5 τ6 h7
      obtain ⟨eh7, h7⟩ := h7; replace eh7 := eh7.symm; subst eh7
      refine s_if_eq (tgt := 65) C dX10_slice_51 (by decide) (fun q8 => ?_) (fun q8 => ?_)
      · refine s_iinc C dX10_slice_65 rfl (by decide) rfl (by decide) (by omega) (fun z9 tz9 => ?_)
        show WP E ad 68 [some (.ref (ad 71)), some (.int c), some (.int k), some (.int a), some (.int z9)] [] τ
        refine s_goto (tgt := 36) C dX10_slice_68 (by decide) ?_
        exact ih a z9 (by omega) (by omega) (by omega)
      · refine s_iload_n C dX10_slice_54 rfl ?_
        refine s_iload_n C dX10_slice_55 rfl ?_
        refine s_icmp_ne (tgt := 62) C dX10_slice_56 (by decide) (fun q10 => ?_) (fun q10 => ?_)
        · refine s_iinc C dX10_slice_62 rfl (by decide) rfl (by decide) (by omega) (fun z11 tz11 => ?_)
          show WP E ad 65 [some (.ref (ad 71)), some (.int c), some (.int k), some (.int z11), some (.int z)] [] τ
          refine s_iinc C dX10_slice_65 rfl (by decide) rfl (by decide) (by omega) (fun z12 tz12 => ?_)
          show WP E ad 68 [some (.ref (ad 71)), some (.int c), some (.int k), some (.int z11), some (.int z12)] [] τ
          refine s_goto (tgt := 36) C dX10_slice_68 (by decide) ?_
          exact ih z11 z12 (by omega) (by omega) (by omega)
        · refine s_iload C dX10_slice_59 rfl ?_
          exact s_iret C X dX10_slice_61 ⟨kI, kF, trivial⟩
set_option maxHeartbeats 10000000 in
set_option maxRecDepth 100000 in
theorem L_regular (l : Launch) (ad : Nat → Nat) (E : Ev) (σ τ : Sg) (kF : Fr [103, 104, 105, 106, 110, 111, 112, 113, 115, 116] [(71, 39), (71, 40), (71, 47), (71, 53), (71, 55)] σ τ) (kI : IM τ.1) (c k : Int32) (C : Cx E l (rmk 8) 5 cX10_regular RX10) (X : Rx E ad (some .int) (oI (fun r τ => IM τ.1 ∧ Fr [103, 104, 105, 106, 110, 111, 112, 113, 115, 116] [(71, 39), (71, 40), (71, 47), (71, 53), (71, 55)] σ τ ∧ True)))  : ∀ (n : Nat) (a : Int32) (z : Int32), (0 ≤ z.toInt) → (0 ≤ a.toInt ∧ a.toInt ≤ z.toInt) → (1296 - z.toInt).toNat < n → WP E ad 22 [some (.ref (ad 71)), some (.int c), some (.int k), some (.int a), some (.int z)] [] τ := by
  intro n
  induction n with
  | zero => intro a z h0 ha hm9; exact absurd hm9 (Nat.not_lt_zero _)
  | succ n ih =>
    intro a z h0 ha hm9
    have hcb := kI.cu.1
    refine s_iload C dX10_regular_22 rfl ?_
    refine s_aload_n C dX10_regular_24 rfl ?_
    refine s_get (k := 40) (x := (τ.1 71 40)) C y71 fw_X10_208 rfl rfl dX10_regular_25 ?_
    refine s_icmp_ge (tgt := 54) C dX10_regular_28 (by decide) (fun q1 => ?_) (fun q1 => ?_)
    · refine s_iload_n C dX10_regular_54 rfl ?_
      refine s_aload_n C dX10_regular_55 rfl ?_
      refine s_get (k := 55) (x := (τ.1 71 55)) C y71 fw_X10_295 rfl rfl dX10_regular_56 ?_
      refine s_icmp_ne (tgt := 66) C dX10_regular_59 (by decide) (fun q2 => ?_) (fun q2 => ?_)
      · refine s_iconst C dX10_regular_66 (by decide) (fun z3 tz3 => ?_)
        exact s_iret C X dX10_regular_67 ⟨kI, kF, trivial⟩
      · refine s_iconst C dX10_regular_62 (by decide) (fun z4 tz4 => ?_)
        refine s_goto (tgt := 67) C dX10_regular_63 (by decide) ?_
        exact s_iret C X dX10_regular_67 ⟨kI, kF, trivial⟩
    · refine s_iload_n C dX10_regular_31 rfl ?_
      refine s_aload_n C dX10_regular_32 rfl ?_
      refine s_iload C dX10_regular_33 rfl ?_
      refine s_callVI (st := [.int a]) C (c_X10_isSliced l ad τ z kI (by omega)) cv_X10_314 y71 rfl rfl rfl ⟨by decide, by decide⟩ (Nat.le_of_ble_eq_true rfl) dX10_regular_35 ?_
      intro r5 τ6 h7
      obtain ⟨eh7, h7⟩ := h7; replace eh7 := eh7.symm; subst eh7
      refine s_if_eq (tgt := 45) C dX10_regular_38 (by decide) (fun q8 => ?_) (fun q8 => ?_)
      · refine s_iconst C dX10_regular_45 (by decide) (fun z9 tz9 => ?_)
        refine s_iadd C dX10_regular_46 (by omega) (fun z10 tz10 => ?_)
        refine s_istore_n C dX10_regular_47 (by decide) (Nat.le_of_ble_eq_true rfl) rfl ?_
        show WP E ad 48 [some (.ref (ad 71)), some (.int c), some (.int k), some (.int z10), some (.int z)] [] τ
        refine s_iinc C dX10_regular_48 rfl (by decide) rfl (by decide) (by omega) (fun z11 tz11 => ?_)
        show WP E ad 51 [some (.ref (ad 71)), some (.int c), some (.int k), some (.int z10), some (.int z11)] [] τ
        refine s_goto (tgt := 22) C dX10_regular_51 (by decide) ?_
        exact ih z10 z11 (by omega) (by omega) (by omega)
      · refine s_iconst C dX10_regular_41 (by decide) (fun z12 tz12 => ?_)
        refine s_goto (tgt := 46) C dX10_regular_42 (by decide) ?_
        refine s_iadd C dX10_regular_46 (by omega) (fun z13 tz13 => ?_)
        refine s_istore_n C dX10_regular_47 (by decide) (Nat.le_of_ble_eq_true rfl) rfl ?_
        show WP E ad 48 [some (.ref (ad 71)), some (.int c), some (.int k), some (.int z13), some (.int z)] [] τ
        refine s_iinc C dX10_regular_48 rfl (by decide) rfl (by decide) (by omega) (fun z14 tz14 => ?_)
        show WP E ad 51 [some (.ref (ad 71)), some (.int c), some (.int k), some (.int z13), some (.int z14)] [] τ
        refine s_goto (tgt := 22) C dX10_regular_51 (by decide) ?_
        exact ih z13 z14 (by omega) (by omega) (by omega)
set_option maxHeartbeats 10000000 in
set_option maxRecDepth 100000 in
theorem c_X10_slice (l : Launch) (ad : Nat → Nat) (σ : Sg) (c k : Int32) (hI : IM σ.1) : Mt l yX10_slice cX10_slice 5 (some .int) 8 ad σ [.ref (ad 71), .int c, .int k] (oI (fun r τ => IM τ.1 ∧ Fr [103, 104, 105, 106, 110, 111, 112, 113, 115, 116] [(71, 39), (71, 40), (71, 47), (71, 53), (71, 55)] σ τ ∧ True)) := by
  refine Mt_intro (by decide +kernel) (by simp [lg_sl, Value.category]) (fun E C X => ?_)
  show WP E ad 0 [some (.ref (ad 71)), some (.int c), some (.int k), none, none] [] σ
  refine s_iload_n C dX10_slice_0 rfl ?_
  refine s_callSI (st := []) C (c_X10_isCondition l ad σ c ) cv_X10_274 rfl rfl ⟨by decide, by decide⟩ (Nat.le_of_ble_eq_true rfl) dX10_slice_1 ?_
  intro r1 τ2 h3
  obtain ⟨eh3, h3⟩ := h3; replace eh3 := eh3.symm; subst eh3
  refine s_if_eq (tgt := 12) C dX10_slice_4 (by decide) (fun q4 => ?_) (fun q4 => ?_)
  · refine s_iconst C dX10_slice_12 (by decide) (fun z5 tz5 => ?_)
    exact s_iret C X dX10_slice_13 ⟨hI, Fr.rf, trivial⟩
  · refine s_iload_n C dX10_slice_7 rfl ?_
    refine s_iconst C dX10_slice_8 (by decide) (fun z6 tz6 => ?_)
    refine s_icmp_ge (tgt := 14) C dX10_slice_9 (by decide) (fun q7 => ?_) (fun q7 => ?_)
    · refine s_aload_n C dX10_slice_14 rfl ?_
      refine s_getr (k := 15) (j := 84) C y71 fw_X10_52 rfl dX10_slice_15 ?_
      refine s_iload_n C dX10_slice_18 rfl ?_
      refine s_iald (r := (σ.1 84 c.toNatClampNeg)) C y84 (by omega) rfl dX10_slice_19 ?_
      have b8 := hI.tm c.toNatClampNeg
      refine s_if_ne (tgt := 26) C dX10_slice_20 (by decide) (fun q9 => ?_) (fun q9 => ?_)
      · refine s_aload_n C dX10_slice_26 rfl ?_
        refine s_iload_n C dX10_slice_27 rfl ?_
        refine s_callVV (st := []) C (c_X10_layLeast l ad σ c hI (by omega) (by omega)) cv_X10_311 y71 rfl rfl rfl ⟨by decide, by decide⟩ (Nat.le_of_ble_eq_true rfl) dX10_slice_28 ?_
        intro τ11 h12
        have hIτ11 := h12.1
        have hLτ11 := h12.2.1
        have hEτ11 := h12.2.2.2
        refine s_iconst C dX10_slice_31 (by decide) (fun z13 tz13 => ?_)
        refine s_istore_n C dX10_slice_32 (by decide) (Nat.le_of_ble_eq_true rfl) rfl ?_
        show WP E ad 33 [some (.ref (ad 71)), some (.int c), some (.int k), some (.int z13), none] [] τ11
        refine s_iconst C dX10_slice_33 (by decide) (fun z14 tz14 => ?_)
        refine s_istore C dX10_slice_34 (by decide) (Nat.le_of_ble_eq_true rfl) rfl ?_
        show WP E ad 36 [some (.ref (ad 71)), some (.int c), some (.int k), some (.int z13), some (.int z14)] [] τ11
        exact L_slice l ad E σ τ11 (Fr.tr Fr.rf (Fr.mo h12.2.2.1 (by decide) (by decide))) hIτ11 c k C X 5000 z13 z14 (by omega) (by omega) (by omega)
      · refine s_bipush C dX10_slice_23 (by decide) (fun z15 tz15 => ?_)
        exact s_iret C X dX10_slice_25 ⟨hI, Fr.rf, trivial⟩
    · refine s_iconst C dX10_slice_12 (by decide) (fun z16 tz16 => ?_)
      exact s_iret C X dX10_slice_13 ⟨hI, Fr.rf, trivial⟩
set_option maxHeartbeats 10000000 in
set_option maxRecDepth 100000 in
theorem c_X10_regular (l : Launch) (ad : Nat → Nat) (σ : Sg) (c : Int32) (hI : IM σ.1) : Mt l yX10_regular cX10_regular 5 (some .int) 8 ad σ [.ref (ad 71), .int c] (oI (fun r τ => IM τ.1 ∧ Fr [103, 104, 105, 106, 110, 111, 112, 113, 115, 116] [(71, 39), (71, 40), (71, 47), (71, 53), (71, 55)] σ τ ∧ True)) := by
  refine Mt_intro (by decide +kernel) (by simp [lg_sl, Value.category]) (fun E C X => ?_)
  show WP E ad 0 [some (.ref (ad 71)), some (.int c), none, none, none] [] σ
  refine s_aload_n C dX10_regular_0 rfl ?_
  refine s_iload_n C dX10_regular_1 rfl ?_
  refine s_callVI (st := []) C (c_X10_wrongCondition l ad σ c hI) cv_X10_305 y71 rfl rfl rfl ⟨by decide, by decide⟩ (Nat.le_of_ble_eq_true rfl) dX10_regular_2 ?_
  intro r1 τ2 h3
  obtain ⟨eh3, h3⟩ := h3; replace eh3 := eh3.symm; subst eh3
  refine s_istore_n C dX10_regular_5 (by decide) (Nat.le_of_ble_eq_true rfl) rfl ?_
  show WP E ad 6 [some (.ref (ad 71)), some (.int c), some (.int r1), none, none] [] σ
  refine s_iload_n C dX10_regular_6 rfl ?_
  refine s_if_ge (tgt := 12) C dX10_regular_7 (by decide) (fun q4 => ?_) (fun q4 => ?_)
  · refine s_aload_n C dX10_regular_12 rfl ?_
    refine s_iload_n C dX10_regular_13 rfl ?_
    refine s_callVV (st := []) C (c_X10_layLeast l ad σ c hI (by omega) (by omega)) cv_X10_311 y71 rfl rfl rfl ⟨by decide, by decide⟩ (Nat.le_of_ble_eq_true rfl) dX10_regular_14 ?_
    intro τ6 h7
    have hIτ6 := h7.1
    have hLτ6 := h7.2.1
    have hEτ6 := h7.2.2.2
    refine s_iconst C dX10_regular_17 (by decide) (fun z8 tz8 => ?_)
    refine s_istore_n C dX10_regular_18 (by decide) (Nat.le_of_ble_eq_true rfl) rfl ?_
    show WP E ad 19 [some (.ref (ad 71)), some (.int c), some (.int r1), some (.int z8), none] [] τ6
    refine s_iconst C dX10_regular_19 (by decide) (fun z9 tz9 => ?_)
    refine s_istore C dX10_regular_20 (by decide) (Nat.le_of_ble_eq_true rfl) rfl ?_
    show WP E ad 22 [some (.ref (ad 71)), some (.int c), some (.int r1), some (.int z8), some (.int z9)] [] τ6
    exact L_regular l ad E σ τ6 (Fr.tr Fr.rf (Fr.mo h7.2.2.1 (by decide) (by decide))) hIτ6 c r1 C X 5000 z8 z9 (by omega) (by omega) (by omega)
  · refine s_iload_n C dX10_regular_10 rfl ?_
    exact s_iret C X dX10_regular_11 ⟨hI, Fr.rf, trivial⟩
set_option maxHeartbeats 10000000 in
set_option maxRecDepth 100000 in
theorem E_least92 (l : Launch) (ad : Nat → Nat) (E : Ev) (σ τ : Sg) (C : Cx E l (rmk 8) 5 cX10_least RX10) (X : Rx E ad (some .int) (oI (fun r τ => IM τ.1 ∧ Fr [103, 104, 105, 106, 110, 111, 112, 113, 115, 116] [(71, 39), (71, 40), (71, 47), (71, 53), (71, 55)] σ τ ∧ True)))  (kF : Fr [103, 104, 105, 106, 110, 111, 112, 113, 115, 116] [(71, 39), (71, 40), (71, 47), (71, 53), (71, 55)] σ τ) (kI : IM τ.1) (hL : ¬ (τ.1 71 39).toInt = 0) (kn : ∀ q, 0 ≤ (τ.1 106 q).toInt ∧ (τ.1 106 q).toInt ≤ 5) : WP E ad 92 [some (.ref (ad 71)), none, none, none, none] [] τ := by
  refine s_aload_n C dX10_least_92 rfl ?_
  refine s_getr (k := 43) (j := 105) C y71 fw_X10_116 rfl dX10_least_93 ?_
  refine s_aload_n C dX10_least_96 rfl ?_
  refine s_callVI (st := [.ref (ad 105)]) C (c_X10_digitsNow l ad τ kI.pr kn) cv_X10_215 y71 rfl rfl rfl ⟨by decide, by decide⟩ (Nat.le_of_ble_eq_true rfl) dX10_least_97 ?_
  intro r1 τ2 h3
  obtain ⟨eh3, h3⟩ := h3; replace eh3 := eh3.symm; subst eh3
  refine s_iald (r := (τ.1 105 r1.toNatClampNeg)) C y105 (by omega) rfl dX10_least_100 ?_
  exact s_iret C X dX10_least_101 ⟨kI, kF, trivial⟩
set_option maxHeartbeats 10000000 in
set_option maxRecDepth 100000 in
theorem L_least (l : Launch) (ad : Nat → Nat) (E : Ev) (σ : Sg) (c p k : Int32) (hp : 0 ≤ p.toInt ∧ p.toInt ≤ 3) (hk : 1 ≤ k.toInt ∧ k.toInt ≤ 5) (C : Cx E l (rmk 8) 5 cX10_least RX10) (X : Rx E ad (some .int) (oI (fun r τ => IM τ.1 ∧ Fr [103, 104, 105, 106, 110, 111, 112, 113, 115, 116] [(71, 39), (71, 40), (71, 47), (71, 53), (71, 55)] σ τ ∧ True)))  : ∀ (n : Nat) (τ : Sg) (z : Int32), (Fr [103, 104, 105, 106, 110, 111, 112, 113, 115, 116] [(71, 39), (71, 40), (71, 47), (71, 53), (71, 55)] σ τ) → (IM τ.1) → (¬ (τ.1 71 39).toInt = 0) → (∀ q : Nat, q < 4 → 0 ≤ (τ.1 115 (4 * (5 * p.toInt + k.toInt - 1).toNat + q)).toInt ∧ (τ.1 115 (4 * (5 * p.toInt + k.toInt - 1).toNat + q)).toInt ≤ 5) → (∀ q : Nat, (q : Int) < z.toInt → 0 ≤ (τ.1 106 q).toInt ∧ (τ.1 106 q).toInt ≤ 5) → (0 ≤ z.toInt ∧ z.toInt ≤ 4) → (4 - z.toInt).toNat < n → WP E ad 58 [some (.ref (ad 71)), some (.int c), some (.int p), some (.int k), some (.int z)] [] τ := by
  intro n
  induction n with
  | zero => intro τ z kF kI hL hE kn h0 hm9; exact absurd hm9 (Nat.not_lt_zero _)
  | succ n ih =>
    intro τ z kF kI hL hE kn h0 hm9
    refine s_iload C dX10_least_58 rfl ?_
    refine s_iconst C dX10_least_60 (by decide) (fun z1 tz1 => ?_)
    refine s_icmp_ge (tgt := 92) C dX10_least_61 (by decide) (fun q2 => ?_) (fun q2 => ?_)
    · refine wp_le (lv' := [some (.ref (ad 71)), none, none, none, none]) ⟨rfl, trivial⟩ ?_
      refine wp_cut (i := 106) y106 ?_
      exact E_least92 l ad E σ (sR τ 106 (fun j => if j < 4 then τ.1 106 j else 0)) C X (Fr.sR kF (by decide)) kI hL (cut_b (fun q hq => kn q (by omega)))
    · refine s_aload_n C dX10_least_64 rfl ?_
      refine s_getr (k := 44) (j := 106) C y71 fw_X10_119 rfl dX10_least_65 ?_
      refine s_iload C dX10_least_68 rfl ?_
      refine s_aload_n C dX10_least_70 rfl ?_
      refine s_getr (k := 57) (j := 115) C y71 fw_X10_147 rfl dX10_least_71 ?_
      refine s_iconst C dX10_least_74 (by decide) (fun z3 tz3 => ?_)
      refine s_iload_n C dX10_least_75 rfl ?_
      refine s_iload_n C dX10_least_76 rfl ?_
      refine s_callSI (st := [.int z3, .ref (ad 115), .int z, .ref (ad 106)]) C (c_X10_at l ad τ p k (by omega) (by omega)) cv_X10_189 rfl rfl ⟨by decide, by decide⟩ (Nat.le_of_ble_eq_true rfl) dX10_least_77 ?_
      intro r4 τ5 h6
      obtain ⟨eh6, h6⟩ := h6; replace eh6 := eh6.symm; subst eh6
      refine s_imulL C tz3 dX10_least_80 (by omega) (fun z7 tz7 => ?_)
      refine s_iload C dX10_least_81 rfl ?_
      refine s_iadd C dX10_least_83 (by omega) (fun z8 tz8 => ?_)
      refine s_iald (r := (τ.1 115 z8.toNatClampNeg)) C y115 (by omega) rfl dX10_least_84 ?_
      refine s_iast C y106 (by omega) dX10_least_85 ?_
      refine s_iinc C dX10_least_86 rfl (by decide) rfl (by decide) (by omega) (fun z9 tz9 => ?_)
      show WP E ad 89 [some (.ref (ad 71)), some (.int c), some (.int p), some (.int k), some (.int z9)] [] (sV τ 106 z.toNatClampNeg (τ.1 115 z8.toNatClampNeg))
      refine s_goto (tgt := 58) C dX10_least_89 (by decide) ?_
      have hx : 0 ≤ (τ.1 115 z8.toNatClampNeg).toInt ∧ (τ.1 115 z8.toNatClampNeg).toInt ≤ 5 := by rw [show z8.toNatClampNeg = 4 * (5 * p.toInt + k.toInt - 1).toNat + z.toInt.toNat by unfold Int32.toNatClampNeg; omega]; exact hE z.toInt.toNat (by omega)
      exact ih (sV τ 106 z.toNatClampNeg (τ.1 115 z8.toNatClampNeg)) z9 (Fr.sV (Fr.tr Fr.rf (Fr.mo kF (by decide) (by decide))) (Or.inl (by decide))) kI hL hE (now_st kn (by omega) (by omega) hx) (by omega) (by omega)
set_option maxHeartbeats 10000000 in
set_option maxRecDepth 100000 in
theorem c_X10_least (l : Launch) (ad : Nat → Nat) (σ : Sg) (c p k : Int32) (hI : IM σ.1) : Mt l yX10_least cX10_least 5 (some .int) 8 ad σ [.ref (ad 71), .int c, .int p, .int k] (oI (fun r τ => IM τ.1 ∧ Fr [103, 104, 105, 106, 110, 111, 112, 113, 115, 116] [(71, 39), (71, 40), (71, 47), (71, 53), (71, 55)] σ τ ∧ True)) := by
  have hpr := hI.pr
  have htot := hI.tot
  have hms := hI.ms
  have htp := hI.tp
  have hevp := hI.ev p.toNatClampNeg
  refine Mt_intro (by decide +kernel) (by simp [lg_sl, Value.category]) (fun E C X => ?_)
  show WP E ad 0 [some (.ref (ad 71)), some (.int c), some (.int p), some (.int k), none] [] σ
  refine s_iload_n C dX10_least_0 rfl ?_
  refine s_callSI (st := []) C (c_X10_isCondition l ad σ c ) cv_X10_274 rfl rfl ⟨by decide, by decide⟩ (Nat.le_of_ble_eq_true rfl) dX10_least_1 ?_
  intro r1 τ2 h3
  obtain ⟨eh3, h3⟩ := h3; replace eh3 := eh3.symm; subst eh3
  refine s_if_eq (tgt := 16) C dX10_least_4 (by decide) (fun q4 => ?_) (fun q4 => ?_)
  · refine s_iconst C dX10_least_16 (by decide) (fun z5 tz5 => ?_)
    exact s_iret C X dX10_least_17 ⟨hI, Fr.rf, trivial⟩
  · refine s_aload_n C dX10_least_7 rfl ?_
    refine s_iload_n C dX10_least_8 rfl ?_
    refine s_iload_n C dX10_least_9 rfl ?_
    refine s_callVI (st := []) C (c_X10_isEvent l ad σ p k (by omega)) cv_X10_202 y71 rfl rfl rfl ⟨by decide, by decide⟩ (Nat.le_of_ble_eq_true rfl) dX10_least_10 ?_
    intro r6 τ7 h8
    obtain ⟨eh8, h8⟩ := h8; replace eh8 := eh8.symm; subst eh8
    have bv6 := hI.ev p.toNatClampNeg
    refine s_if_ne (tgt := 18) C dX10_least_13 (by decide) (fun q9 => ?_) (fun q9 => ?_)
    · refine s_aload_n C dX10_least_18 rfl ?_
      refine s_getr (k := 15) (j := 84) C y71 fw_X10_52 rfl dX10_least_19 ?_
      refine s_iload_n C dX10_least_22 rfl ?_
      refine s_iald (r := (σ.1 84 c.toNatClampNeg)) C y84 (by omega) rfl dX10_least_23 ?_
      have b10 := hI.tm c.toNatClampNeg
      refine s_if_ne (tgt := 30) C dX10_least_24 (by decide) (fun q11 => ?_) (fun q11 => ?_)
      · refine s_aload_n C dX10_least_30 rfl ?_
        refine s_iload_n C dX10_least_31 rfl ?_
        refine s_callVV (st := []) C (c_X10_layLeast l ad σ c hI (by omega) (by omega)) cv_X10_311 y71 rfl rfl rfl ⟨by decide, by decide⟩ (Nat.le_of_ble_eq_true rfl) dX10_least_32 ?_
        intro τ13 h14
        have hIτ13 := h14.1
        have hLτ13 := h14.2.1
        have hEτ13 := h14.2.2.2
        refine s_aload_n C dX10_least_35 rfl ?_
        refine s_getr (k := 57) (j := 115) C y71 fw_X10_147 rfl dX10_least_36 ?_
        refine s_iconst C dX10_least_39 (by decide) (fun z15 tz15 => ?_)
        refine s_iload_n C dX10_least_40 rfl ?_
        refine s_iload_n C dX10_least_41 rfl ?_
        refine s_callSI (st := [.int z15, .ref (ad 115)]) C (c_X10_at l ad τ13 p k (by omega) (by omega)) cv_X10_189 rfl rfl ⟨by decide, by decide⟩ (Nat.le_of_ble_eq_true rfl) dX10_least_42 ?_
        intro r16 τ17 h18
        obtain ⟨eh18, h18⟩ := h18; replace eh18 := eh18.symm; subst eh18
        refine s_imulL C tz15 dX10_least_45 (by omega) (fun z19 tz19 => ?_)
        refine s_iald (r := (τ13.1 115 z19.toNatClampNeg)) C y115 (by omega) rfl dX10_least_46 ?_
        refine s_bipush C dX10_least_47 (by decide) (fun z20 tz20 => ?_)
        refine s_icmp_ne (tgt := 55) C dX10_least_49 (by decide) (fun q21 => ?_) (fun q21 => ?_)
        · refine s_iconst C dX10_least_55 (by decide) (fun z22 tz22 => ?_)
          refine s_istore C dX10_least_56 (by decide) (Nat.le_of_ble_eq_true rfl) rfl ?_
          show WP E ad 58 [some (.ref (ad 71)), some (.int c), some (.int p), some (.int k), some (.int z22)] [] τ13
          have hEO : ∀ q : Nat, q < 4 → 0 ≤ (τ13.1 115 (4 * (5 * p.toInt + k.toInt - 1).toNat + q)).toInt ∧ (τ13.1 115 (4 * (5 * p.toInt + k.toInt - 1).toNat + q)).toInt ≤ 5 := (hEτ13 (5 * p.toInt + k.toInt - 1).toNat (by omega)).resolve_left (fun h9 => by have h8 := h9 0 (by omega); rw [show 4 * (5 * p.toInt + k.toInt - 1).toNat + 0 = z19.toNatClampNeg by unfold Int32.toNatClampNeg; omega] at h8; omega)
          exact L_least l ad E σ c p k (by omega) (by omega) C X 100 τ13 z22 (Fr.tr Fr.rf (Fr.mo h14.2.2.1 (by decide) (by decide))) hIτ13 hLτ13 hEO (fun q hq => by omega) (by omega) (by omega)
        · refine s_bipush C dX10_least_52 (by decide) (fun z23 tz23 => ?_)
          exact s_iret C X dX10_least_54 ⟨hIτ13, (Fr.tr Fr.rf (Fr.mo h14.2.2.1 (by decide) (by decide))), trivial⟩
      · refine s_bipush C dX10_least_27 (by decide) (fun z24 tz24 => ?_)
        exact s_iret C X dX10_least_29 ⟨hI, Fr.rf, trivial⟩
    · refine s_iconst C dX10_least_16 (by decide) (fun z25 tz25 => ?_)
      exact s_iret C X dX10_least_17 ⟨hI, Fr.rf, trivial⟩
