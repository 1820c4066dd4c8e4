/-! counting through the cuts -/
def rk (m : Nat → Int) : Nat → Int
  | 0 => 0
  | k + 1 => 6 * rk m k + m k
theorem dg_congr {m m' : Nat → Int} : ∀ {k : Nat}, (∀ j, j < k → m j = m' j) → dg m k = dg m' k
  | 0, _ => rfl
  | k + 1, h => by show 10 * dg m k + m k = 10 * dg m' k + m' k; rw [dg_congr (fun j hj => h j (by omega)), h k (by omega)]
theorem rk_congr {m m' : Nat → Int} : ∀ {k : Nat}, (∀ j, j < k → m j = m' j) → rk m k = rk m' k
  | 0, _ => rfl
  | k + 1, h => by show 6 * rk m k + m k = 6 * rk m' k + m' k; rw [rk_congr (fun j hj => h j (by omega)), h k (by omega)]
theorem dg_b {m : Nat → Int} (h : ∀ j, 0 ≤ m j ∧ m j ≤ 5) {k : Nat} (hk : k ≤ 4) : 0 ≤ dg m k ∧ dg m k ≤ 5555 := by
  have h0 := h 0
  have h1 := h 1
  have h2 := h 2
  have h3 := h 3
  match k, hk with
  | 0, _ => exact ⟨Int.le_refl _, by show (0 : Int) ≤ 5555; omega⟩
  | 1, _ => simp only [dg]; omega
  | 2, _ => simp only [dg]; omega
  | 3, _ => simp only [dg]; omega
  | 4, _ => simp only [dg]; omega
theorem rk_b {m : Nat → Int} (h : ∀ j, 0 ≤ m j ∧ m j ≤ 5) {k : Nat} (hk : k ≤ 4) : 0 ≤ rk m k ∧ rk m k ≤ 1295 := by
  have h0 := h 0
  have h1 := h 1
  have h2 := h 2
  have h3 := h 3
  match k, hk with
  | 0, _ => exact ⟨Int.le_refl _, by show (0 : Int) ≤ 1295; omega⟩
  | 1, _ => simp only [rk]; omega
  | 2, _ => simp only [rk]; omega
  | 3, _ => simp only [rk]; omega
  | 4, _ => simp only [rk]; omega
/-- the next count: place P one more, all behind it 0 -/
theorem dg_next {m m' : Nat → Int} {P : Nat} (hb : ∀ j, 0 ≤ m j ∧ m j ≤ 5) (h1 : ∀ j, j < P → m' j = m j) (h2 : m' P = m P + 1) {N : Nat} (h3 : ∀ j, P < j → j < N → m' j = 0) : ∀ k, P < k → k ≤ N → dg m k < dg m' k ∧ rk m k + 1 ≤ rk m' k := by
  intro k
  induction k with
  | zero => intro h; omega
  | succ k ih =>
    intro h hN
    show 10 * dg m k + m k < 10 * dg m' k + m' k ∧ 6 * rk m k + m k + 1 ≤ 6 * rk m' k + m' k
    rcases Nat.lt_or_ge P k with q | q
    · have := ih q (by omega)
      have h5 := hb k
      rw [h3 k q (by omega)]
      omega
    · have e : k = P := by omega
      subst e
      rw [dg_congr h1, rk_congr h1, h2]
      omega
theorem dg_inj {m m' : Nat → Int} (hb : ∀ j, 0 ≤ m j ∧ m j ≤ 5) (hb' : ∀ j, 0 ≤ m' j ∧ m' j ≤ 5) : ∀ k, dg m k = dg m' k → ∀ j, j < k → m j = m' j := by
  intro k
  induction k with
  | zero => intro _ j hj; omega
  | succ k ih =>
    intro h j hj
    have h' : 10 * dg m k + m k = 10 * dg m' k + m' k := h
    have a := hb k
    have b := hb' k
    have e : dg m k = dg m' k := by omega
    rcases Nat.lt_or_ge j k with q | q
    · exact ih e j q
    · have : j = k := by omega
      subst this
      omega
