/-! what a text that is accepted has at a place -/
theorem ac_plus {pr : Int} {t : Nat → Int32} {n f s k : Nat} {o : List Bool} (h : ac pr t n f s o k) (hk : k < n) (hs : s = 1 ∨ s = 2) (hc : (t k).toInt = 43 ∨ (t k).toInt = 45) : ∃ f' j, un pr t n (k + 1) j ∧ ac pr t n f' s o j := by
  match f, h with
  | f + 1, h =>
    rcases h with a | ⟨_, a⟩
    · omega
    · rcases a with a | a | a | a | a | a
      · omega
      · omega
      · obtain ⟨_, _, j, a3, a4⟩ := a
        exact ⟨f, j, a3, a4⟩
      · omega
      · omega
      · omega
theorem ac_cmp {pr : Int} {t : Nat → Int32} {n f k : Nat} {o : List Bool} (h : ac pr t n f 1 o k) (hc : n ≤ k ∨ ¬ ((t k).toInt = 43 ∨ (t k).toInt = 45)) : k < n ∧ ((t k).toInt = 61 ∨ (t k).toInt = 60 ∨ (t k).toInt = 62) ∧ ∃ f' j, un pr t n (k + 1) j ∧ ac pr t n f' 2 o j := by
  match f, h with
  | f + 1, h =>
    rcases h with a | ⟨hk, a⟩
    · omega
    · rcases a with a | a | a | a | a | a
      · omega
      · omega
      · omega
      · obtain ⟨_, a2, j, a3, a4⟩ := a
        exact ⟨hk, a2, f, j, a3, a4⟩
      · omega
      · omega
theorem ac_unit {pr : Int} {t : Nat → Int32} {n f k : Nat} {o : List Bool} (h : ac pr t n f 0 o k) (hc : ¬ ((t k).toInt = 33 ∨ (t k).toInt = 40)) : k < n ∧ ∃ f' j, un pr t n k j ∧ ac pr t n f' 1 o j := by
  match f, h with
  | f + 1, h =>
    rcases h with a | ⟨hk, a⟩
    · omega
    · rcases a with a | a | a | a | a | a
      · omega
      · obtain ⟨_, _, j, a3, a4⟩ := a
        exact ⟨hk, f, j, a3, a4⟩
      · omega
      · omega
      · omega
      · omega
theorem un_lt {pr : Int} {t : Nat → Int32} {n k j : Nat} (h : un pr t n k j) : k < j := by
  unfold un at h
  omega
/-- where a sum ends -/
def SE (pr : Int) (t : Nat → Int32) (n s : Nat) (o : List Bool) (k0 : Nat) (B : Nat) (z : Int) : Prop := ∃ j f : Nat, z = B + j ∧ ac pr t n f s o j ∧ (n ≤ j ∨ ¬ ((t j).toInt = 43 ∨ (t j).toInt = 45)) ∧ k0 < j ∧ j ≤ n
