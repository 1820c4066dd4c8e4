theorem ck_st {f g : Nat → Int32} {E i : Nat} {z z' x : Int32} {B : Nat → Int} (hi : i = 4 * E + z.toNatClampNeg) (hz : 0 ≤ z.toInt ∧ z.toInt < 4) (hz' : z'.toInt = z.toInt + 1) (hx : x.toInt ≤ B z.toNatClampNeg) (hx0 : 0 ≤ x.toInt ∧ x.toInt ≤ 5) (kb : ∀ j, 0 ≤ (f j).toInt ∧ (f j).toInt ≤ 5) (ko : ∀ j, ¬ (4 * E ≤ j ∧ j < 4 * E + 4) → f j = g j) (kq : ∀ q : Nat, (q : Int) < z.toInt → (f (4 * E + q)).toInt ≤ B q) :
    (∀ j, 0 ≤ (upd f i x j).toInt ∧ (upd f i x j).toInt ≤ 5) ∧ (∀ j, ¬ (4 * E ≤ j ∧ j < 4 * E + 4) → upd f i x j = g j) ∧ ∀ q : Nat, (q : Int) < z'.toInt → (upd f i x (4 * E + q)).toInt ≤ B q := by
  have hzn : (z.toNatClampNeg : Int) = z.toInt := by unfold Int32.toNatClampNeg; omega
  refine ⟨up_iv kb _ hx0, fun j hj => ?_, fun q hq => ?_⟩
  · rw [pk_un (by omega)]; exact ko j hj
  · by_cases e : q = z.toNatClampNeg
    · rw [hi, e, pk_us]; exact hx
    · rw [pk_un (by omega)]; exact kq q (by omega)
theorem ck_st4 {f g : Nat → Int32} {E i : Nat} {x : Int32} {B B2 : Nat → Int} {Z : Nat} (hi : i = 4 * E + Z) (hZ : Z < 4) (hx : x.toInt ≤ B2 Z) (hB : ∀ q, q < 4 → q ≠ Z → B q ≤ B2 q) (hx0 : 0 ≤ x.toInt ∧ x.toInt ≤ 5) (kb : ∀ j, 0 ≤ (f j).toInt ∧ (f j).toInt ≤ 5) (ko : ∀ j, ¬ (4 * E ≤ j ∧ j < 4 * E + 4) → f j = g j) (kq : ∀ q : Nat, q < 4 → (f (4 * E + q)).toInt ≤ B q) :
    (∀ j, 0 ≤ (upd f i x j).toInt ∧ (upd f i x j).toInt ≤ 5) ∧ (∀ j, ¬ (4 * E ≤ j ∧ j < 4 * E + 4) → upd f i x j = g j) ∧ ∀ q : Nat, q < 4 → (upd f i x (4 * E + q)).toInt ≤ B2 q := by
  refine ⟨up_iv kb _ hx0, fun j hj => ?_, fun q hq => ?_⟩
  · rw [pk_un (by omega)]; exact ko j hj
  · by_cases e : q = Z
    · rw [hi, e, pk_us]; exact hx
    · rw [pk_un (by omega)]; exact Int.le_trans (kq q hq) (hB q hq e)
def Com (σ τ : Sg) (p w m r : Int32) (B : Nat → Int) : Prop := Fr [73, 74, 75, 76, 77, 78, 79] [(71, 8), (71, 39)] σ τ ∧ ∃ (k : Int32) (E : Nat), k.toInt = (σ.1 73 p.toNatClampNeg).toInt + 1 ∧ r.toInt = k.toInt ∧ E = 5 * p.toNatClampNeg + (σ.1 73 p.toNatClampNeg).toInt.toNat ∧ τ.1 73 = upd (σ.1 73) p.toNatClampNeg k ∧ τ.1 74 = upd (σ.1 74) E w ∧ τ.1 76 = upd (σ.1 76) E m ∧ τ.1 79 = upd (σ.1 79) (σ.1 71 8).toNatClampNeg p ∧ (τ.1 71 8).toInt = (σ.1 71 8).toInt + 1 ∧ (τ.1 71 39).toInt = 0 ∧
  (∀ j, 0 ≤ (τ.1 78 j).toInt ∧ (τ.1 78 j).toInt ≤ 5) ∧ (∀ j, ¬ (4 * E ≤ j ∧ j < 4 * E + 4) → τ.1 78 j = σ.1 78 j) ∧ ∀ q : Nat, q < 4 → (τ.1 78 (4 * E + q)).toInt ≤ (if q = p.toNatClampNeg then k.toInt else B q)
set_option maxRecDepth 100000 in
theorem E_comes (l : Launch) (ad : Nat → Nat) (E : Ev) (σ : Sg) (p w v m : Int32) (B : Nat → Int) (hp : 0 ≤ p.toInt ∧ p.toInt ≤ 3) (hev : ∀ j, 0 ≤ (σ.1 73 j).toInt ∧ (σ.1 73 j).toInt ≤ 5) (hf : (σ.1 73 p.toNatClampNeg).toInt < 5) (ht : 0 ≤ (σ.1 71 8).toInt ∧ (σ.1 71 8).toInt < 20) (hck : ∀ j, 0 ≤ (σ.1 78 j).toInt ∧ (σ.1 78 j).toInt ≤ 5) (hB : ∀ q, q < 4 → 0 ≤ B q) (hpv : 1 ≤ (σ.1 73 p.toNatClampNeg).toInt → ∀ q, q < 4 → (σ.1 78 (4 * (5 * p.toNatClampNeg + (σ.1 73 p.toNatClampNeg).toInt.toNat - 1) + q)).toInt ≤ B q) (hfr : w.toInt = 2 → (0 ≤ m.toInt ∧ m.toInt ≤ 7 ∧ 0 ≤ (σ.1 80 m.toNatClampNeg).toInt ∧ (σ.1 80 m.toNatClampNeg).toInt ≤ 3 ∧ 1 ≤ (σ.1 81 m.toNatClampNeg).toInt ∧ (σ.1 81 m.toNatClampNeg).toInt ≤ 5) ∧ ∀ q, q < 4 → (σ.1 78 (4 * (5 * (σ.1 80 m.toNatClampNeg).toInt + (σ.1 81 m.toNatClampNeg).toInt - 1).toNat + q)).toInt ≤ B q) (k e : Int32) (hk : k.toInt = (σ.1 73 p.toNatClampNeg).toInt + 1) (he : e.toInt = 5 * p.toInt + (σ.1 73 p.toNatClampNeg).toInt) (C : Cx E l (rmk 1) 8 cX10_comes RX10) (X : Rx E ad (some .int) (oI (fun r τ => Com σ τ p w m r B))) (τ : Sg) (kF : Fr [73, 74, 75, 76, 77, 78] [] σ τ) (km : τ.1 73 = upd (σ.1 73) p.toNatClampNeg k) (ks : τ.1 74 = upd (σ.1 74) e.toNatClampNeg w) (kc : τ.1 76 = upd (σ.1 76) e.toNatClampNeg m) (kb : ∀ j, 0 ≤ (τ.1 78 j).toInt ∧ (τ.1 78 j).toInt ≤ 5) (ko : ∀ j, ¬ (4 * e.toNatClampNeg ≤ j ∧ j < 4 * e.toNatClampNeg + 4) → τ.1 78 j = σ.1 78 j) (k4 : ∀ q : Nat, q < 4 → (τ.1 78 (4 * e.toNatClampNeg + q)).toInt ≤ B q) : WP E ad 188 [some (.ref (ad 71)), some (.int p), some (.int w), some (.int v), some (.int m), some (.int e), none, none] [] τ := by
  have hkp : (τ.1 73 p.toNatClampNeg).toInt = k.toInt := by rw [km, pk_us]
  have hvv := hev p.toNatClampNeg
  have hE : (e.toNatClampNeg : Int) = e.toInt := by unfold Int32.toNatClampNeg; omega
  have hP : (p.toNatClampNeg : Int) = p.toInt := by unfold Int32.toNatClampNeg; omega
  have ht8 : τ.1 71 8 = σ.1 71 8 := kF.f 71 8 (by decide) (by decide)
  have ht8i : (τ.1 71 8).toInt = (σ.1 71 8).toInt := by rw [ht8]
  refine s_aload_n C dX10_comes_188 rfl ?_
  refine s_getr (k := 7) (j := 78) C y71 fw_X10_34 rfl dX10_comes_189 ?_
  refine s_iconst C dX10_comes_192 (by decide) (fun z1 tz1 => ?_)
  refine s_iload C dX10_comes_193 rfl ?_
  refine s_imulL C tz1 dX10_comes_195 (by omega) (fun z2 tz2 => ?_)
  refine s_iload_n C dX10_comes_196 rfl ?_
  refine s_iadd C dX10_comes_197 (by omega) (fun z3 tz3 => ?_)
  refine s_aload_n C dX10_comes_198 rfl ?_
  refine s_getr (k := 2) (j := 73) C y71 fw_X10_19 rfl dX10_comes_199 ?_
  refine s_iload_n C dX10_comes_202 rfl ?_
  refine s_iald (r := (τ.1 73 p.toNatClampNeg)) C y73 (by omega) rfl dX10_comes_203 ?_
  refine s_iast C y78 (by omega) dX10_comes_204 ?_
  have hst := ck_st4 (i := z3.toNatClampNeg) (x := (τ.1 73 p.toNatClampNeg)) (B2 := fun q => if q = p.toNatClampNeg then k.toInt else B q) (Z := p.toNatClampNeg) (by unfold Int32.toNatClampNeg at *; omega) (by omega) (by show _ ≤ (if p.toNatClampNeg = p.toNatClampNeg then k.toInt else B _); rw [if_pos rfl]; omega) (fun q hq h => by show _ ≤ (if q = p.toNatClampNeg then k.toInt else B q); rw [if_neg h]; exact Int.le_refl _) (by omega) kb ko k4
  refine s_aload_n C dX10_comes_205 rfl ?_
  refine s_getr (k := 9) (j := 79) C y71 fw_X10_37 rfl dX10_comes_206 ?_
  refine s_aload_n C dX10_comes_209 rfl ?_
  refine s_get (k := 8) (x := (τ.1 71 8)) C y71 fw_X10_175 rfl rfl dX10_comes_210 ?_
  refine s_iload_n C dX10_comes_213 rfl ?_
  refine s_iast C y79 (by omega) dX10_comes_214 ?_
  refine s_aload_n C dX10_comes_215 rfl ?_
  refine s_dup C dX10_comes_216 rfl ?_
  refine s_get (k := 8) (x := (τ.1 71 8)) C y71 fw_X10_175 rfl rfl dX10_comes_217 ?_
  refine s_iconst C dX10_comes_220 (by decide) (fun z4 tz4 => ?_)
  refine s_iadd C dX10_comes_221 (by omega) (fun z5 tz5 => ?_)
  refine s_put (k := 8) C y71 fw_X10_175 fp_9_8 rfl dX10_comes_222 ?_
  refine s_aload_n C dX10_comes_225 rfl ?_
  refine s_iconst C dX10_comes_226 (by decide) (fun z6 tz6 => ?_)
  refine s_putz (k := 39) C y71 fw_X10_181 fp_9_39 rfl (by omega) dX10_comes_227 ?_
  refine s_aload_n C dX10_comes_230 rfl ?_
  refine s_getr (k := 2) (j := 73) C y71 fw_X10_19 rfl dX10_comes_231 ?_
  refine s_iload_n C dX10_comes_234 rfl ?_
  refine s_iald (r := (τ.1 73 p.toNatClampNeg)) C y73 (by omega) rfl dX10_comes_235 ?_
  exact s_iret C X dX10_comes_236 ⟨(Fr.sV (Fr.sV (Fr.sV (Fr.sV (Fr.tr Fr.rf (Fr.mo kF (by decide) (by decide))) (Or.inl (by decide))) (Or.inl (by decide))) (Or.inr (by decide))) (Or.inr (by decide))), k, e.toNatClampNeg, hk, (by show Int32.toInt (τ.1 73 p.toNatClampNeg) = k.toInt; omega), by omega, km, ks, kc, (by show upd (τ.1 79) (τ.1 71 8).toNatClampNeg p = _; rw [kF.a 79 (by decide) (by decide), kF.f 71 8 (by decide) (by decide)]), (by show Int32.toInt z5 = _; rw [kF.f 71 8 (by decide) (by decide)] at *; omega), (by show Int32.toInt z6 = 0; omega), hst.1, hst.2.1, hst.2.2⟩
set_option maxRecDepth 100000 in
theorem L_comes2 (l : Launch) (ad : Nat → Nat) (E : Ev) (σ : Sg) (p w v m : Int32) (B : Nat → Int) (hp : 0 ≤ p.toInt ∧ p.toInt ≤ 3) (hev : ∀ j, 0 ≤ (σ.1 73 j).toInt ∧ (σ.1 73 j).toInt ≤ 5) (hf : (σ.1 73 p.toNatClampNeg).toInt < 5) (ht : 0 ≤ (σ.1 71 8).toInt ∧ (σ.1 71 8).toInt < 20) (hck : ∀ j, 0 ≤ (σ.1 78 j).toInt ∧ (σ.1 78 j).toInt ≤ 5) (hB : ∀ q, q < 4 → 0 ≤ B q) (hpv : 1 ≤ (σ.1 73 p.toNatClampNeg).toInt → ∀ q, q < 4 → (σ.1 78 (4 * (5 * p.toNatClampNeg + (σ.1 73 p.toNatClampNeg).toInt.toNat - 1) + q)).toInt ≤ B q) (hfr : w.toInt = 2 → (0 ≤ m.toInt ∧ m.toInt ≤ 7 ∧ 0 ≤ (σ.1 80 m.toNatClampNeg).toInt ∧ (σ.1 80 m.toNatClampNeg).toInt ≤ 3 ∧ 1 ≤ (σ.1 81 m.toNatClampNeg).toInt ∧ (σ.1 81 m.toNatClampNeg).toInt ≤ 5) ∧ ∀ q, q < 4 → (σ.1 78 (4 * (5 * (σ.1 80 m.toNatClampNeg).toInt + (σ.1 81 m.toNatClampNeg).toInt - 1).toNat + q)).toInt ≤ B q) (k e : Int32) (hk : k.toInt = (σ.1 73 p.toNatClampNeg).toInt + 1) (he : e.toInt = 5 * p.toInt + (σ.1 73 p.toNatClampNeg).toInt) (f : Int32) (hff : 0 ≤ f.toInt ∧ f.toInt < 20) (hfB : ∀ q, q < 4 → (σ.1 78 (4 * f.toInt.toNat + q)).toInt ≤ B q) (C : Cx E l (rmk 1) 8 cX10_comes RX10) (X : Rx E ad (some .int) (oI (fun r τ => Com σ τ p w m r B)))  : ∀ (n : Nat) (τ : Sg) (z : Int32), (Fr [73, 74, 75, 76, 77, 78] [] σ τ) → (τ.1 73 = upd (σ.1 73) p.toNatClampNeg k) → (τ.1 74 = upd (σ.1 74) e.toNatClampNeg w) → (τ.1 76 = upd (σ.1 76) e.toNatClampNeg m) → (∀ j, 0 ≤ (τ.1 78 j).toInt ∧ (τ.1 78 j).toInt ≤ 5) → (∀ j, ¬ (4 * e.toNatClampNeg ≤ j ∧ j < 4 * e.toNatClampNeg + 4) → τ.1 78 j = σ.1 78 j) → (∀ q : Nat, q < 4 → (τ.1 78 (4 * e.toNatClampNeg + q)).toInt ≤ B q) → (0 ≤ z.toInt) → (4 - z.toInt).toNat < n → WP E ad 137 [some (.ref (ad 71)), some (.int p), some (.int w), some (.int v), some (.int m), some (.int e), some (.int f), some (.int z)] [] τ := by
  intro n
  induction n with
  | zero => intro τ z kF km ks kc kb ko k4 h0 hm9; exact absurd hm9 (Nat.not_lt_zero _)
  | succ n ih =>
    intro τ z kF km ks kc kb ko k4 h0 hm9
    have hkp : (τ.1 73 p.toNatClampNeg).toInt = k.toInt := by rw [km, pk_us]
    have hvv := hev p.toNatClampNeg
    have hE : (e.toNatClampNeg : Int) = e.toInt := by unfold Int32.toNatClampNeg; omega
    have hP : (p.toNatClampNeg : Int) = p.toInt := by unfold Int32.toNatClampNeg; omega
    refine s_iload C dX10_comes_137 rfl ?_
    refine s_iconst C dX10_comes_139 (by decide) (fun z1 tz1 => ?_)
    refine s_icmp_ge (tgt := 188) C dX10_comes_140 (by decide) (fun q2 => ?_) (fun q2 => ?_)
    · refine wp_le (lv' := [some (.ref (ad 71)), some (.int p), some (.int w), some (.int v), some (.int m), some (.int e), none, none]) ⟨rfl, ⟨rfl, ⟨rfl, ⟨rfl, ⟨rfl, ⟨rfl, trivial⟩⟩⟩⟩⟩⟩ ?_
      exact E_comes l ad E σ p w v m B hp hev hf ht hck hB hpv hfr k e hk he C X τ kF km ks kc kb ko k4
    · refine s_aload_n C dX10_comes_143 rfl ?_
      refine s_getr (k := 7) (j := 78) C y71 fw_X10_34 rfl dX10_comes_144 ?_
      refine s_iconst C dX10_comes_147 (by decide) (fun z3 tz3 => ?_)
      refine s_iload C dX10_comes_148 rfl ?_
      refine s_imulL C tz3 dX10_comes_150 (by omega) (fun z4 tz4 => ?_)
      refine s_iload C dX10_comes_151 rfl ?_
      refine s_iadd C dX10_comes_153 (by omega) (fun z5 tz5 => ?_)
      refine s_aload_n C dX10_comes_154 rfl ?_
      refine s_getr (k := 7) (j := 78) C y71 fw_X10_34 rfl dX10_comes_155 ?_
      refine s_iconst C dX10_comes_158 (by decide) (fun z6 tz6 => ?_)
      refine s_iload C dX10_comes_159 rfl ?_
      refine s_imulL C tz6 dX10_comes_161 (by omega) (fun z7 tz7 => ?_)
      refine s_iload C dX10_comes_162 rfl ?_
      refine s_iadd C dX10_comes_164 (by omega) (fun z8 tz8 => ?_)
      refine s_iald (r := (τ.1 78 z8.toNatClampNeg)) C y78 (by omega) rfl dX10_comes_165 ?_
      have b9 := kb z8.toNatClampNeg
      refine s_aload_n C dX10_comes_166 rfl ?_
      refine s_getr (k := 7) (j := 78) C y71 fw_X10_34 rfl dX10_comes_167 ?_
      refine s_iconst C dX10_comes_170 (by decide) (fun z10 tz10 => ?_)
      refine s_iload C dX10_comes_171 rfl ?_
      refine s_imulL C tz10 dX10_comes_173 (by omega) (fun z11 tz11 => ?_)
      refine s_iload C dX10_comes_174 rfl ?_
      refine s_iadd C dX10_comes_176 (by omega) (fun z12 tz12 => ?_)
      refine s_iald (r := (τ.1 78 z12.toNatClampNeg)) C y78 (by omega) rfl dX10_comes_177 ?_
      have b13 := kb z12.toNatClampNeg
      have M1 : (τ.1 78 z8.toNatClampNeg) = τ.1 78 (4 * e.toNatClampNeg + z.toNatClampNeg) := by rw [show z8.toNatClampNeg = 4 * e.toNatClampNeg + z.toNatClampNeg by unfold Int32.toNatClampNeg at *; omega]
      have M2 : (τ.1 78 z12.toNatClampNeg) = τ.1 78 (4 * f.toInt.toNat + z.toNatClampNeg) := by rw [show z12.toNatClampNeg = 4 * f.toInt.toNat + z.toNatClampNeg by unfold Int32.toNatClampNeg at *; omega]
      refine s_mmax (idx := 193) C (mw 1207 (by decide +kernel) rfl) (mw 1208 (by decide +kernel) rfl) (mw 73 (by decide +kernel) rfl) (mw 1209 (by decide +kernel) rfl) (by decide) (Nat.le_of_ble_eq_true rfl) dX10_comes_178 (fun z14 tz14 => ?_)
      refine s_iast C y78 (by omega) dX10_comes_181 ?_
      refine s_iinc C dX10_comes_182 rfl (by decide) rfl (by decide) (by omega) (fun z15 tz15 => ?_)
      show WP E ad 185 [some (.ref (ad 71)), some (.int p), some (.int w), some (.int v), some (.int m), some (.int e), some (.int f), some (.int z15)] [] (sV τ 78 z5.toNatClampNeg z14)
      refine s_goto (tgt := 137) C dX10_comes_185 (by decide) ?_
      have hzn : (z.toNatClampNeg : Int) = z.toInt := by unfold Int32.toNatClampNeg; omega
      have hi : z5.toNatClampNeg = 4 * e.toNatClampNeg + z.toNatClampNeg := by unfold Int32.toNatClampNeg at *; omega
      have hx1 := k4 z.toNatClampNeg (by omega)
      have hx2 : (τ.1 78 (4 * f.toInt.toNat + z.toNatClampNeg)).toInt ≤ B z.toNatClampNeg := by by_cases hb : 4 * e.toNatClampNeg ≤ 4 * f.toInt.toNat + z.toNatClampNeg ∧ 4 * f.toInt.toNat + z.toNatClampNeg < 4 * e.toNatClampNeg + 4; (have := k4 (4 * f.toInt.toNat + z.toNatClampNeg - 4 * e.toNatClampNeg) (by omega); rw [show 4 * e.toNatClampNeg + (4 * f.toInt.toNat + z.toNatClampNeg - 4 * e.toNatClampNeg) = 4 * f.toInt.toNat + z.toNatClampNeg by omega, show 4 * f.toInt.toNat + z.toNatClampNeg - 4 * e.toNatClampNeg = z.toNatClampNeg by omega] at this; exact this); (rw [ko _ hb]; exact hfB _ (by omega))
      have hst := ck_st4 (i := z5.toNatClampNeg) (x := z14) (B2 := B) (Z := z.toNatClampNeg) hi (by omega) (by rw [M1, M2] at tz14; omega) (fun q _ _ => Int.le_refl _) (by omega) kb ko k4
      exact ih (sV τ 78 z5.toNatClampNeg z14) z15 (Fr.sV (Fr.tr Fr.rf (Fr.mo kF (by decide) (by decide))) (Or.inl (by decide))) km ks kc hst.1 hst.2.1 hst.2.2 (by omega) (by omega)
set_option maxRecDepth 100000 in
theorem L_comes1 (l : Launch) (ad : Nat → Nat) (E : Ev) (σ : Sg) (p w v m : Int32) (B : Nat → Int) (hp : 0 ≤ p.toInt ∧ p.toInt ≤ 3) (hev : ∀ j, 0 ≤ (σ.1 73 j).toInt ∧ (σ.1 73 j).toInt ≤ 5) (hf : (σ.1 73 p.toNatClampNeg).toInt < 5) (ht : 0 ≤ (σ.1 71 8).toInt ∧ (σ.1 71 8).toInt < 20) (hck : ∀ j, 0 ≤ (σ.1 78 j).toInt ∧ (σ.1 78 j).toInt ≤ 5) (hB : ∀ q, q < 4 → 0 ≤ B q) (hpv : 1 ≤ (σ.1 73 p.toNatClampNeg).toInt → ∀ q, q < 4 → (σ.1 78 (4 * (5 * p.toNatClampNeg + (σ.1 73 p.toNatClampNeg).toInt.toNat - 1) + q)).toInt ≤ B q) (hfr : w.toInt = 2 → (0 ≤ m.toInt ∧ m.toInt ≤ 7 ∧ 0 ≤ (σ.1 80 m.toNatClampNeg).toInt ∧ (σ.1 80 m.toNatClampNeg).toInt ≤ 3 ∧ 1 ≤ (σ.1 81 m.toNatClampNeg).toInt ∧ (σ.1 81 m.toNatClampNeg).toInt ≤ 5) ∧ ∀ q, q < 4 → (σ.1 78 (4 * (5 * (σ.1 80 m.toNatClampNeg).toInt + (σ.1 81 m.toNatClampNeg).toInt - 1).toNat + q)).toInt ≤ B q) (k e : Int32) (hk : k.toInt = (σ.1 73 p.toNatClampNeg).toInt + 1) (he : e.toInt = 5 * p.toInt + (σ.1 73 p.toNatClampNeg).toInt) (C : Cx E l (rmk 1) 8 cX10_comes RX10) (X : Rx E ad (some .int) (oI (fun r τ => Com σ τ p w m r B)))  : ∀ (n : Nat) (τ : Sg) (z : Int32), (Fr [73, 74, 75, 76, 77, 78] [] σ τ) → (τ.1 73 = upd (σ.1 73) p.toNatClampNeg k) → (τ.1 74 = upd (σ.1 74) e.toNatClampNeg w) → (τ.1 76 = upd (σ.1 76) e.toNatClampNeg m) → (∀ j, 0 ≤ (τ.1 78 j).toInt ∧ (τ.1 78 j).toInt ≤ 5) → (∀ j, ¬ (4 * e.toNatClampNeg ≤ j ∧ j < 4 * e.toNatClampNeg + 4) → τ.1 78 j = σ.1 78 j) → (∀ q : Nat, (q : Int) < z.toInt → (τ.1 78 (4 * e.toNatClampNeg + q)).toInt ≤ B q) → (0 ≤ z.toInt ∧ z.toInt ≤ 4) → (4 - z.toInt).toNat < n → WP E ad 58 [some (.ref (ad 71)), some (.int p), some (.int w), some (.int v), some (.int m), some (.int e), some (.int z), none] [] τ := by
  intro n
  induction n with
  | zero => intro τ z kF km ks kc kb ko kq h0 hm9; exact absurd hm9 (Nat.not_lt_zero _)
  | succ n ih =>
    intro τ z kF km ks kc kb ko kq h0 hm9
    have hkp : (τ.1 73 p.toNatClampNeg).toInt = k.toInt := by rw [km, pk_us]
    have hvv := hev p.toNatClampNeg
    have hE : (e.toNatClampNeg : Int) = e.toInt := by unfold Int32.toNatClampNeg; omega
    have hP : (p.toNatClampNeg : Int) = p.toInt := by unfold Int32.toNatClampNeg; omega
    refine s_iload C dX10_comes_58 rfl ?_
    refine s_iconst C dX10_comes_60 (by decide) (fun z1 tz1 => ?_)
    refine s_icmp_ge (tgt := 110) C dX10_comes_61 (by decide) (fun q2 => ?_) (fun q2 => ?_)
    · refine s_iload_n C dX10_comes_110 rfl ?_
      refine s_iconst C dX10_comes_111 (by decide) (fun z3 tz3 => ?_)
      refine s_icmp_ne (tgt := 188) C dX10_comes_112 (by decide) (fun q4 => ?_) (fun q4 => ?_)
      · refine wp_le (lv' := [some (.ref (ad 71)), some (.int p), some (.int w), some (.int v), some (.int m), some (.int e), none, none]) ⟨rfl, ⟨rfl, ⟨rfl, ⟨rfl, ⟨rfl, ⟨rfl, trivial⟩⟩⟩⟩⟩⟩ ?_
        exact E_comes l ad E σ p w v m B hp hev hf ht hck hB hpv hfr k e hk he C X τ kF km ks kc kb ko (fun q hq => kq q (by omega))
      · have hw2 := hfr (by omega)
        have e80 : τ.1 80 = σ.1 80 := kF.a 80 (by decide) (by decide)
        have e81 : τ.1 81 = σ.1 81 := kF.a 81 (by decide) (by decide)
        have e80i : (τ.1 80 m.toNatClampNeg).toInt = (σ.1 80 m.toNatClampNeg).toInt := by rw [e80]
        have e81i : (τ.1 81 m.toNatClampNeg).toInt = (σ.1 81 m.toNatClampNeg).toInt := by rw [e81]
        refine s_aload_n C dX10_comes_115 rfl ?_
        refine s_getr (k := 11) (j := 80) C y71 fw_X10_40 rfl dX10_comes_116 ?_
        refine s_iload C dX10_comes_119 rfl ?_
        refine s_iald (r := (τ.1 80 m.toNatClampNeg)) C y80 (by omega) rfl dX10_comes_121 ?_
        refine s_aload_n C dX10_comes_122 rfl ?_
        refine s_getr (k := 12) (j := 81) C y71 fw_X10_43 rfl dX10_comes_123 ?_
        refine s_iload C dX10_comes_126 rfl ?_
        refine s_iald (r := (τ.1 81 m.toNatClampNeg)) C y81 (by omega) rfl dX10_comes_128 ?_
        refine s_callSI (st := []) C (c_X10_at l ad τ ((τ.1 80 m.toNatClampNeg)) ((τ.1 81 m.toNatClampNeg)) (by omega) (by omega)) cv_X10_189 rfl rfl ⟨by decide, by decide⟩ (Nat.le_of_ble_eq_true rfl) dX10_comes_129 ?_
        intro r5 τ6 h7
        obtain ⟨eh7, h7⟩ := h7; replace eh7 := eh7.symm; subst eh7
        refine s_istore C dX10_comes_132 (by decide) (Nat.le_of_ble_eq_true rfl) rfl ?_
        show WP E ad 134 [some (.ref (ad 71)), some (.int p), some (.int w), some (.int v), some (.int m), some (.int e), some (.int r5), none] [] τ
        refine s_iconst C dX10_comes_134 (by decide) (fun z8 tz8 => ?_)
        refine s_istore C dX10_comes_135 (by decide) (Nat.le_of_ble_eq_true rfl) rfl ?_
        show WP E ad 137 [some (.ref (ad 71)), some (.int p), some (.int w), some (.int v), some (.int m), some (.int e), some (.int r5), some (.int z8)] [] τ
        exact L_comes2 l ad E σ p w v m B hp hev hf ht hck hB hpv hfr k e hk he r5 (by omega) (fun q hq => by rw [show r5.toInt.toNat = (5 * (σ.1 80 m.toNatClampNeg).toInt + (σ.1 81 m.toNatClampNeg).toInt - 1).toNat by omega]; exact (hfr (by omega)).2 q hq) C X 100 τ z8 kF km ks kc kb ko (fun q hq => kq q (by omega)) (by omega) (by omega)
    · refine s_aload_n C dX10_comes_64 rfl ?_
      refine s_getr (k := 7) (j := 78) C y71 fw_X10_34 rfl dX10_comes_65 ?_
      refine s_iconst C dX10_comes_68 (by decide) (fun z9 tz9 => ?_)
      refine s_iload C dX10_comes_69 rfl ?_
      refine s_imulL C tz9 dX10_comes_71 (by omega) (fun z10 tz10 => ?_)
      refine s_iload C dX10_comes_72 rfl ?_
      refine s_iadd C dX10_comes_74 (by omega) (fun z11 tz11 => ?_)
      refine s_aload_n C dX10_comes_75 rfl ?_
      refine s_getr (k := 2) (j := 73) C y71 fw_X10_19 rfl dX10_comes_76 ?_
      refine s_iload_n C dX10_comes_79 rfl ?_
      refine s_iald (r := (τ.1 73 p.toNatClampNeg)) C y73 (by omega) rfl dX10_comes_80 ?_
      refine s_iconst C dX10_comes_81 (by decide) (fun z12 tz12 => ?_)
      refine s_icmp_le (tgt := 102) C dX10_comes_82 (by decide) (fun q13 => ?_) (fun q13 => ?_)
      · refine s_iconst C dX10_comes_102 (by decide) (fun z14 tz14 => ?_)
        refine s_iast C y78 (by omega) dX10_comes_103 ?_
        refine s_iinc C dX10_comes_104 rfl (by decide) rfl (by decide) (by omega) (fun z15 tz15 => ?_)
        show WP E ad 107 [some (.ref (ad 71)), some (.int p), some (.int w), some (.int v), some (.int m), some (.int e), some (.int z15), none] [] (sV τ 78 z11.toNatClampNeg z14)
        refine s_goto (tgt := 58) C dX10_comes_107 (by decide) ?_
        have hzn : (z.toNatClampNeg : Int) = z.toInt := by unfold Int32.toNatClampNeg; omega
        have hi : z11.toNatClampNeg = 4 * e.toNatClampNeg + z.toNatClampNeg := by unfold Int32.toNatClampNeg at *; omega
        have hx : z14.toInt ≤ B z.toNatClampNeg := by have := hB z.toNatClampNeg (by omega); omega
        have hst := ck_st (i := z11.toNatClampNeg) (x := z14) (z' := z15) (B := B) hi (by omega) (by omega) hx (by omega) kb ko kq
        exact ih (sV τ 78 z11.toNatClampNeg z14) z15 (Fr.sV (Fr.tr Fr.rf (Fr.mo kF (by decide) (by decide))) (Or.inl (by decide))) km ks kc hst.1 hst.2.1 hst.2.2 (by omega) (by omega)
      · refine s_aload_n C dX10_comes_85 rfl ?_
        refine s_getr (k := 7) (j := 78) C y71 fw_X10_34 rfl dX10_comes_86 ?_
        refine s_iconst C dX10_comes_89 (by decide) (fun z16 tz16 => ?_)
        refine s_iload C dX10_comes_90 rfl ?_
        refine s_iconst C dX10_comes_92 (by decide) (fun z17 tz17 => ?_)
        refine s_isub C dX10_comes_93 (by omega) (fun z18 tz18 => ?_)
        refine s_imulL C tz16 dX10_comes_94 (by omega) (fun z19 tz19 => ?_)
        refine s_iload C dX10_comes_95 rfl ?_
        refine s_iadd C dX10_comes_97 (by omega) (fun z20 tz20 => ?_)
        refine s_iald (r := (τ.1 78 z20.toNatClampNeg)) C y78 (by omega) rfl dX10_comes_98 ?_
        have b21 := kb z20.toNatClampNeg
        refine s_goto (tgt := 103) C dX10_comes_99 (by decide) ?_
        refine s_iast C y78 (by omega) dX10_comes_103 ?_
        refine s_iinc C dX10_comes_104 rfl (by decide) rfl (by decide) (by omega) (fun z22 tz22 => ?_)
        show WP E ad 107 [some (.ref (ad 71)), some (.int p), some (.int w), some (.int v), some (.int m), some (.int e), some (.int z22), none] [] (sV τ 78 z11.toNatClampNeg (τ.1 78 z20.toNatClampNeg))
        refine s_goto (tgt := 58) C dX10_comes_107 (by decide) ?_
        have hzn : (z.toNatClampNeg : Int) = z.toInt := by unfold Int32.toNatClampNeg; omega
        have hi : z11.toNatClampNeg = 4 * e.toNatClampNeg + z.toNatClampNeg := by unfold Int32.toNatClampNeg at *; omega
        have hx : (τ.1 78 z20.toNatClampNeg).toInt ≤ B z.toNatClampNeg := by rw [show z20.toNatClampNeg = 4 * (5 * p.toNatClampNeg + (σ.1 73 p.toNatClampNeg).toInt.toNat - 1) + z.toNatClampNeg by unfold Int32.toNatClampNeg at *; omega, ko _ (by omega)]; exact hpv (by omega) _ (by omega)
        have hst := ck_st (i := z11.toNatClampNeg) (x := (τ.1 78 z20.toNatClampNeg)) (z' := z22) (B := B) hi (by omega) (by omega) hx (by omega) kb ko kq
        exact ih (sV τ 78 z11.toNatClampNeg (τ.1 78 z20.toNatClampNeg)) z22 (Fr.sV (Fr.tr Fr.rf (Fr.mo kF (by decide) (by decide))) (Or.inl (by decide))) km ks kc hst.1 hst.2.1 hst.2.2 (by omega) (by omega)
set_option maxRecDepth 100000 in
theorem c_X10_comes (l : Launch) (ad : Nat → Nat) (σ : Sg) (p w v m : Int32) (B : Nat → Int) (hp : 0 ≤ p.toInt ∧ p.toInt ≤ 3) (hev : ∀ j, 0 ≤ (σ.1 73 j).toInt ∧ (σ.1 73 j).toInt ≤ 5) (hf : (σ.1 73 p.toNatClampNeg).toInt < 5) (ht : 0 ≤ (σ.1 71 8).toInt ∧ (σ.1 71 8).toInt < 20) (hck : ∀ j, 0 ≤ (σ.1 78 j).toInt ∧ (σ.1 78 j).toInt ≤ 5) (hB : ∀ q, q < 4 → 0 ≤ B q) (hpv : 1 ≤ (σ.1 73 p.toNatClampNeg).toInt → ∀ q, q < 4 → (σ.1 78 (4 * (5 * p.toNatClampNeg + (σ.1 73 p.toNatClampNeg).toInt.toNat - 1) + q)).toInt ≤ B q) (hfr : w.toInt = 2 → (0 ≤ m.toInt ∧ m.toInt ≤ 7 ∧ 0 ≤ (σ.1 80 m.toNatClampNeg).toInt ∧ (σ.1 80 m.toNatClampNeg).toInt ≤ 3 ∧ 1 ≤ (σ.1 81 m.toNatClampNeg).toInt ∧ (σ.1 81 m.toNatClampNeg).toInt ≤ 5) ∧ ∀ q, q < 4 → (σ.1 78 (4 * (5 * (σ.1 80 m.toNatClampNeg).toInt + (σ.1 81 m.toNatClampNeg).toInt - 1).toNat + q)).toInt ≤ B q) : Mt l yX10_comes cX10_comes 8 (some .int) 1 ad σ [.ref (ad 71), .int p, .int w, .int v, .int m] (oI (fun r τ => Com σ τ p w m r B)) := by
  refine Mt_intro (by decide +kernel) (by simp [lg_sl, Value.category]) (fun E C X => ?_)
  show WP E ad 0 [some (.ref (ad 71)), some (.int p), some (.int w), some (.int v), some (.int m), none, none, none] [] σ
  have hvv := hev p.toNatClampNeg
  refine s_aload_n C dX10_comes_0 rfl ?_
  refine s_getr (k := 2) (j := 73) C y71 fw_X10_19 rfl dX10_comes_1 ?_
  refine s_iload_n C dX10_comes_4 rfl ?_
  refine s_dup2 C dX10_comes_5 rfl rfl ?_
  refine s_iald (r := (σ.1 73 p.toNatClampNeg)) C y73 (by omega) rfl dX10_comes_6 ?_
  refine s_iconst C dX10_comes_7 (by decide) (fun z1 tz1 => ?_)
  refine s_iadd C dX10_comes_8 (by omega) (fun z2 tz2 => ?_)
  refine s_iast C y73 (by omega) dX10_comes_9 ?_
  refine s_iload_n C dX10_comes_10 rfl ?_
  refine s_aload_n C dX10_comes_11 rfl ?_
  refine s_getr (k := 2) (j := 73) C y71 fw_X10_19 rfl dX10_comes_12 ?_
  refine s_iload_n C dX10_comes_15 rfl ?_
  refine s_iald (r := z2) C y73 (by omega) (rd_us σ 73 p.toNatClampNeg z2) dX10_comes_16 ?_
  refine s_callSI (st := []) C (c_X10_at l ad (sV σ 73 p.toNatClampNeg z2) p z2 (by omega) (by omega)) cv_X10_189 rfl rfl ⟨by decide, by decide⟩ (Nat.le_of_ble_eq_true rfl) dX10_comes_17 ?_
  intro r3 τ4 h5
  obtain ⟨eh5, h5⟩ := h5; replace eh5 := eh5.symm; subst eh5
  refine s_istore C dX10_comes_20 (by decide) (Nat.le_of_ble_eq_true rfl) rfl ?_
  show WP E ad 22 [some (.ref (ad 71)), some (.int p), some (.int w), some (.int v), some (.int m), some (.int r3), none, none] [] (sV σ 73 p.toNatClampNeg z2)
  refine s_aload_n C dX10_comes_22 rfl ?_
  refine s_getr (k := 3) (j := 74) C y71 fw_X10_22 rfl dX10_comes_23 ?_
  refine s_iload C dX10_comes_26 rfl ?_
  refine s_iload_n C dX10_comes_28 rfl ?_
  refine s_iast C y74 (by omega) dX10_comes_29 ?_
  refine s_aload_n C dX10_comes_30 rfl ?_
  refine s_getr (k := 4) (j := 75) C y71 fw_X10_25 rfl dX10_comes_31 ?_
  refine s_iload C dX10_comes_34 rfl ?_
  refine s_iload_n C dX10_comes_36 rfl ?_
  refine s_iast C y75 (by omega) dX10_comes_37 ?_
  refine s_aload_n C dX10_comes_38 rfl ?_
  refine s_getr (k := 5) (j := 76) C y71 fw_X10_28 rfl dX10_comes_39 ?_
  refine s_iload C dX10_comes_42 rfl ?_
  refine s_iload C dX10_comes_44 rfl ?_
  refine s_iast C y76 (by omega) dX10_comes_46 ?_
  refine s_aload_n C dX10_comes_47 rfl ?_
  refine s_getr (k := 6) (j := 77) C y71 fw_X10_31 rfl dX10_comes_48 ?_
  refine s_iload C dX10_comes_51 rfl ?_
  refine s_iconst C dX10_comes_53 (by decide) (fun z6 tz6 => ?_)
  refine s_iast C y77 (by omega) dX10_comes_54 ?_
  refine s_iconst C dX10_comes_55 (by decide) (fun z7 tz7 => ?_)
  refine s_istore C dX10_comes_56 (by decide) (Nat.le_of_ble_eq_true rfl) rfl ?_
  show WP E ad 58 [some (.ref (ad 71)), some (.int p), some (.int w), some (.int v), some (.int m), some (.int r3), some (.int z7), none] [] (sV (sV (sV (sV (sV σ 73 p.toNatClampNeg z2) 74 r3.toNatClampNeg w) 75 r3.toNatClampNeg v) 76 r3.toNatClampNeg m) 77 r3.toNatClampNeg z6)
  exact L_comes1 l ad E σ p w v m B hp hev hf ht hck hB hpv hfr z2 r3 (by omega) (by omega) C X 100 (sV (sV (sV (sV (sV σ 73 p.toNatClampNeg z2) 74 r3.toNatClampNeg w) 75 r3.toNatClampNeg v) 76 r3.toNatClampNeg m) 77 r3.toNatClampNeg z6) z7 (Fr.sV (Fr.sV (Fr.sV (Fr.sV (Fr.sV Fr.rf (Or.inl (by decide))) (Or.inl (by decide))) (Or.inl (by decide))) (Or.inl (by decide))) (Or.inl (by decide))) rfl rfl rfl hck (fun _ _ => rfl) (fun q hq => by omega) (by omega) (by omega)
