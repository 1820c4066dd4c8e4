/-! one event more in a cut, by its digits -/
theorem dg_inc {m m' : Nat → Int} {P : Nat} (h1 : ∀ j, j ≠ P → m' j = m j) (h2 : m' P = m P + 1) : ∀ k, P < k → dg m' k = dg m k + (10 : Int) ^ (k - 1 - P) := by
  intro k
  induction k with
  | zero => intro h; omega
  | succ k ih =>
    intro h
    show 10 * dg m' k + m' k = 10 * dg m k + m k + (10 : Int) ^ (k + 1 - 1 - P)
    rcases Nat.lt_or_ge P k with q | q
    · rw [ih q, h1 k (by omega), show k + 1 - 1 - P = (k - 1 - P) + 1 by omega, Int.pow_succ]
      omega
    · have e : k = P := by omega
      subst e
      rw [dg_congr (m := m') (m' := m) (fun j hj => h1 j (by omega)), h2, show k + 1 - 1 - k = 0 by omega]
      simp; omega
theorem pw_b {e : Nat} (h : e ≤ 3) : 1 ≤ (10 : Int) ^ e ∧ (10 : Int) ^ e ≤ 1000 := by
  match e, h with
  | 0, _ => decide
  | 1, _ => decide
  | 2, _ => decide
  | 3, _ => decide
theorem pw_s {a b : Nat} (h : b = a + 1) : (10 : Int) ^ b = (10 : Int) ^ a * 10 := by rw [h, Int.pow_succ]
/-- what the number at the place of the next cut's digits says -/
theorem cu_next {V : Nat → Nat → Int32} (hI : IM V) (hL : ¬ (V 71 39).toInt = 0) {i P : Nat} (hi : (i : Int) < (V 71 40).toInt) (hP : (P : Int) < (V 71 0).toInt) (hn : (V 104 (4 * i + P)).toInt < (V 73 P).toInt) :
    (V 103 i).toInt + (10 : Int) ^ ((V 71 0).toInt.toNat - 1 - P) ≤ 5555 ∧ ∀ d : Nat, (d : Int) = (V 103 i).toInt + (10 : Int) ^ ((V 71 0).toInt.toNat - 1 - P) → 0 ≤ (V 105 d).toInt → (V 105 d).toInt < (V 71 40).toInt ∧ (i : Int) < (V 105 d).toInt ∧ ∀ q : Nat, q < 4 → (V 104 (4 * (V 105 d).toInt.toNat + q)).toInt = (V 104 (4 * i + q)).toInt + (if q = P then 1 else 0) := by
  have hpr := hI.pr
  have hev := hI.ev P
  obtain ⟨c1, c2, c3, c4, c5⟩ := hI.cu
  obtain ⟨l0, l1, l2, l3, l4⟩ := c5 hL
  obtain ⟨a1, a2, a3⟩ := l1 i hi
  have hb : ∀ j, 0 ≤ (if j = P then (V 104 (4 * i + j)).toInt + 1 else (V 104 (4 * i + j)).toInt) ∧ (if j = P then (V 104 (4 * i + j)).toInt + 1 else (V 104 (4 * i + j)).toInt) ≤ 5 := by
    intro j
    have := c2 (4 * i + j)
    by_cases e : j = P
    · rw [if_pos e, e]; rw [e] at this; omega
    · rw [if_neg e]; exact this
  have hd := dg_inc (m := fun j => (V 104 (4 * i + j)).toInt) (m' := fun j => if j = P then (V 104 (4 * i + j)).toInt + 1 else (V 104 (4 * i + j)).toInt) (P := P) (fun j hj => if_neg hj) (if_pos rfl) (V 71 0).toInt.toNat (by omega)
  have hdb := dg_b (m := fun j => if j = P then (V 104 (4 * i + j)).toInt + 1 else (V 104 (4 * i + j)).toInt) hb (k := (V 71 0).toInt.toNat) (by omega)
  rw [← a2] at hd
  refine ⟨by omega, fun d hdd h0 => ?_⟩
  obtain ⟨g1, g2⟩ := l2 d h0
  have hpw := pw_b (e := (V 71 0).toInt.toNat - 1 - P) (by omega)
  have hri : (((V 105 d).toInt.toNat : Nat) : Int) = (V 105 d).toInt := by omega
  obtain ⟨r1, r2, r3⟩ := l1 (V 105 d).toInt.toNat (by omega)
  refine ⟨g1, ?_, fun q hq => ?_⟩
  · rcases Nat.lt_trichotomy i (V 105 d).toInt.toNat with t | t | t
    · omega
    · rw [← t] at g2; omega
    · have := l3 _ _ t hi; omega
  · rcases Nat.lt_or_ge q (V 71 0).toInt.toNat with t | t
    · have := dg_inj (m := fun p => (V 104 (4 * (V 105 d).toInt.toNat + p)).toInt) (m' := fun j => if j = P then (V 104 (4 * i + j)).toInt + 1 else (V 104 (4 * i + j)).toInt) (fun j => c2 _) hb (V 71 0).toInt.toNat (by rw [← r2, hd, g2, hdd]) q t
      have t2 : (V 104 (4 * (V 105 d).toInt.toNat + q)).toInt = (if q = P then (V 104 (4 * i + q)).toInt + 1 else (V 104 (4 * i + q)).toInt) := this
      rw [t2]
      split <;> omega
    · rw [(r1 q hq).2 (by omega), (a1 q hq).2 (by omega), if_neg (by omega)]
      rfl
/-- the number that the reference finds for the next cut -/
def nx (V : Nat → Nat → Int32) (i p : Nat) : Int := if (V 104 (4 * i + p)).toInt = (V 73 p).toInt then -5 else (V 105 ((V 103 i).toInt + (10 : Int) ^ ((V 71 0).toInt.toNat - 1 - p)).toNat).toInt
