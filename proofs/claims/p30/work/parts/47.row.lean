/-! rows of four numbers, four bits each: what the class's bit tricks do -/
theorem ceq {z n : Int32} (h : z.toInt = n.toInt) : z = n := Int32.toInt_inj.mp h
theorem n_and (a b : Nat) : nI a &&& nI b = nI (a &&& b) := by
  apply Int32.toBitVec_inj.mp
  show BitVec.ofNat 32 a &&& BitVec.ofNat 32 b = BitVec.ofNat 32 (a &&& b)
  exact BitVec.ofNat_and.symm
theorem n_all (x : Int32) : ∃ n : Nat, x = nI n := ⟨x.toBitVec.toNat, by
  apply Int32.toBitVec_inj.mp
  show x.toBitVec = BitVec.ofNat 32 x.toBitVec.toNat
  simp⟩
theorem and_b (x : Int32) {k : Nat} (hk : k < 31) : 0 ≤ (x &&& nI (2 ^ k - 1)).toInt ∧ (x &&& nI (2 ^ k - 1)).toInt ≤ 2 ^ k - 1 := by
  obtain ⟨n, rfl⟩ := n_all x
  have hp : 2 ^ k ≤ 2 ^ 30 := Nat.pow_le_pow_right (by omega) (by omega)
  have h0 : 0 < 2 ^ k := Nat.two_pow_pos k
  have h1 : n % 2 ^ k < 2 ^ k := Nat.mod_lt _ h0
  have e : (2 : Int) ^ k = ((2 ^ k : Nat) : Int) := by simp
  rw [n_and, Nat.and_two_pow_sub_one_eq_mod, nI_toInt (by omega), e]
  omega
theorem and7 {x y : Int32} (hy : y.toInt = 7) : 0 ≤ (x &&& y).toInt ∧ (x &&& y).toInt ≤ 7 := by
  have e : y = nI (2 ^ 3 - 1) := ceq hy
  rw [e]
  exact and_b x (by omega)
def rAt (r p : Int32) : Int32 := (r >>> ((4 * p) &&& 31)) &&& 7
def rOne (p : Int32) : Int32 := 1 <<< ((4 * p) &&& 31)
def rWo (r p : Int32) : Int32 := r &&& ((7 <<< ((4 * p) &&& 31)) ^^^ (-1))
theorem rAt_b (r p : Int32) : 0 ≤ (rAt r p).toInt ∧ (rAt r p).toInt ≤ 7 := and7 rfl
def gr (a b c d : Nat) : Int32 := nI (4096 * a + 256 * b + 16 * c + d)
/-- a row of four numbers 0 .. 5 -/
def GR (r : Int32) : Prop := ∃ a b c d : Nat, a < 6 ∧ b < 6 ∧ c < 6 ∧ d < 6 ∧ r = gr a b c d
theorem GR_0 : GR 0 := ⟨0, 0, 0, 0, by omega, by omega, by omega, by omega, rfl⟩
theorem at_n {n : Nat} (h : n < 2 ^ 31) {p : Int32} (k : Nat) (hs : ((((4 * p) &&& 31) : Int32).toBitVec.smod 32).toNat = k) : rAt (nI n) p = nI (n / 2 ^ k % 8) := by
  unfold rAt
  rw [pk_shrN h _ k hs]
  show nI _ &&& nI (2 ^ 3 - 1) = _
  rw [n_and, Nat.and_two_pow_sub_one_eq_mod]
theorem p7 {p : Int32} (hp : -3 ≤ p.toInt ∧ p.toInt ≤ 3) : p = 0 ∨ p = 1 ∨ p = 2 ∨ p = 3 ∨ p = -1 ∨ p = -2 ∨ p = -3 := by
  rcases (show p.toInt = 0 ∨ p.toInt = 1 ∨ p.toInt = 2 ∨ p.toInt = 3 ∨ p.toInt = -1 ∨ p.toInt = -2 ∨ p.toInt = -3 by omega) with e | e | e | e | e | e | e
  · exact Or.inl (ceq e)
  · exact Or.inr (Or.inl (ceq e))
  · exact Or.inr (Or.inr (Or.inl (ceq e)))
  · exact Or.inr (Or.inr (Or.inr (Or.inl (ceq e))))
  · exact Or.inr (Or.inr (Or.inr (Or.inr (Or.inl (ceq e)))))
  · exact Or.inr (Or.inr (Or.inr (Or.inr (Or.inr (Or.inl (ceq e))))))
  · exact Or.inr (Or.inr (Or.inr (Or.inr (Or.inr (Or.inr (ceq e))))))
theorem GR.at5 {r p : Int32} (h : GR r) (hp : -3 ≤ p.toInt ∧ p.toInt ≤ 3) : (rAt r p).toInt ≤ 5 := by
  obtain ⟨a, b, c, d, ha, hb, hc, hd, rfl⟩ := h
  unfold gr
  have hn : 4096 * a + 256 * b + 16 * c + d < 2 ^ 31 := by omega
  rcases p7 hp with e | e | e | e | e | e | e <;> subst e
  · rw [at_n hn 0 (by decide +kernel), nI_toInt (by omega)]; omega
  · rw [at_n hn 4 (by decide +kernel), nI_toInt (by omega)]; omega
  · rw [at_n hn 8 (by decide +kernel), nI_toInt (by omega)]; omega
  · rw [at_n hn 12 (by decide +kernel), nI_toInt (by omega)]; omega
  · rw [at_n hn 28 (by decide +kernel), nI_toInt (by omega)]; omega
  · rw [at_n hn 24 (by decide +kernel), nI_toInt (by omega)]; omega
  · rw [at_n hn 20 (by decide +kernel), nI_toInt (by omega)]; omega
theorem n_add (a b : Nat) : nI a + nI b = nI (a + b) := by
  apply Int32.toBitVec_inj.mp
  show BitVec.ofNat 32 a + BitVec.ofNat 32 b = BitVec.ofNat 32 (a + b)
  exact (BitVec.ofNat_add a b).symm
/-- one event more at place p -/
theorem GR.inc {r p : Int32} (h : GR r) (hp : 0 ≤ p.toInt ∧ p.toInt ≤ 3) (h5 : (rAt r p).toInt < 5) : GR (r + rOne p) := by
  obtain ⟨a, b, c, d, ha, hb, hc, hd, rfl⟩ := h
  unfold gr at h5 ⊢
  have hn : 4096 * a + 256 * b + 16 * c + d < 2 ^ 31 := by omega
  rcases p7 (p := p) (by omega) with e | e | e | e | e | e | e <;> subst e
  · rw [at_n hn 0 (by decide +kernel), nI_toInt (by omega)] at h5
    rw [show rOne 0 = nI 1 by decide +kernel, n_add]
    exact ⟨a, b, c, d + 1, ha, hb, hc, by omega, congrArg nI (by omega)⟩
  · rw [at_n hn 4 (by decide +kernel), nI_toInt (by omega)] at h5
    rw [show rOne 1 = nI 16 by decide +kernel, n_add]
    exact ⟨a, b, c + 1, d, ha, hb, by omega, hd, congrArg nI (by omega)⟩
  · rw [at_n hn 8 (by decide +kernel), nI_toInt (by omega)] at h5
    rw [show rOne 2 = nI 256 by decide +kernel, n_add]
    exact ⟨a, b + 1, c, d, ha, by omega, hc, hd, congrArg nI (by omega)⟩
  · rw [at_n hn 12 (by decide +kernel), nI_toInt (by omega)] at h5
    rw [show rOne 3 = nI 4096 by decide +kernel, n_add]
    exact ⟨a + 1, b, c, d, by omega, hb, hc, hd, congrArg nI (by omega)⟩
  · exact absurd hp (by decide)
  · exact absurd hp (by decide)
  · exact absurd hp (by decide)
theorem wo_all : ∀ a : Fin 6, ∀ b : Fin 6, ∀ c : Fin 6, ∀ d : Fin 6, rWo (gr a b c d) 0 = gr a b c 0 ∧ rWo (gr a b c d) 1 = gr a b 0 d ∧ rWo (gr a b c d) 2 = gr a 0 c d ∧ rWo (gr a b c d) 3 = gr 0 b c d := by decide +kernel
theorem GR.wo {r p : Int32} (h : GR r) (hp : 0 ≤ p.toInt ∧ p.toInt ≤ 3) : GR (rWo r p) := by
  obtain ⟨a, b, c, d, ha, hb, hc, hd, rfl⟩ := h
  obtain ⟨w0, w1, w2, w3⟩ := wo_all ⟨a, ha⟩ ⟨b, hb⟩ ⟨c, hc⟩ ⟨d, hd⟩
  rcases p7 (p := p) (by omega) with e | e | e | e | e | e | e <;> subst e
  · exact ⟨a, b, c, 0, ha, hb, hc, by omega, w0⟩
  · exact ⟨a, b, 0, d, ha, hb, by omega, hd, w1⟩
  · exact ⟨a, 0, c, d, ha, by omega, hc, hd, w2⟩
  · exact ⟨0, b, c, d, by omega, hb, hc, hd, w3⟩
  · exact absurd hp (by decide)
  · exact absurd hp (by decide)
  · exact absurd hp (by decide)
/-! a command of a condition's program: what it does, and its number -/
def pOp (x : Int32) : Int32 := x &&& 15
def pNm (x : Int32) : Int32 := x >>> ((4 : Int32) &&& 31)
def PV (x : Int32) : Prop := ((pOp x).toInt = 1 ∨ (pOp x).toInt = 2) → 0 ≤ (pNm x).toInt ∧ (pNm x).toInt ≤ 3
def pMk (n o : Int32) : Int32 := (n <<< ((4 : Int32) &&& 31)) ||| o
theorem pv_all : ∀ n : Fin 100, ∀ o : Fin 4, pOp (pMk (nI n) (nI o)) = nI o ∧ pNm (pMk (nI n) (nI o)) = nI n := by decide +kernel
theorem pv_mk {n o : Int32} (hn : 0 ≤ n.toInt ∧ n.toInt ≤ 99) (ho : 0 ≤ o.toInt ∧ o.toInt ≤ 3) (h : (o.toInt = 1 ∨ o.toInt = 2) → n.toInt ≤ 3) : PV (pMk n o) := by
  obtain ⟨a, ea, rfl⟩ : ∃ a : Nat, a < 100 ∧ n = nI a := ⟨n.toInt.toNat, by omega, ceq (by rw [nI_toInt (by omega)]; omega)⟩
  obtain ⟨b, eb, rfl⟩ : ∃ b : Nat, b < 4 ∧ o = nI b := ⟨o.toInt.toNat, by omega, ceq (by rw [nI_toInt (by omega)]; omega)⟩
  obtain ⟨h1, h2⟩ := pv_all ⟨a, ea⟩ ⟨b, eb⟩
  unfold PV
  rw [h1, h2]
  intro q
  exact ⟨hn.1, h q⟩
theorem pv_op {o : Int32} (ho : 4 ≤ o.toInt ∧ o.toInt ≤ 11) : PV o := by
  have k : ∀ q : Fin 8, ¬ ((pOp (nI (4 + q))).toInt = 1 ∨ (pOp (nI (4 + q))).toInt = 2) := by decide +kernel
  obtain ⟨a, ea, rfl⟩ : ∃ a : Nat, a < 8 ∧ o = nI (4 + a) := ⟨o.toInt.toNat - 4, by omega, ceq (by rw [nI_toInt (by omega)]; omega)⟩
  exact fun q => absurd q (k ⟨a, ea⟩)
theorem PV_0 : PV 0 := by unfold PV; decide +kernel
