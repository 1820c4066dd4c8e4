/-! steps through an accepted text -/
theorem ac_bang {pr : Int} {t : Nat → Int32} {n f s k : Nat} {o : List Bool} (h : ac pr t n f s o k) (hk : k < n) (hs : s = 0 ∨ s = 3 ∨ s = 2) (hc : (t k).toInt = 33 ∨ (t k).toInt = 40) : o.length < 5 ∧ ∃ f', ac pr t n f' 0 (decide ((t k).toInt = 40) :: o) (k + 1) := by
  match f, h with
  | f + 1, h =>
    rcases h with a | ⟨_, a⟩
    · omega
    · rcases a with a | a | a | a | a | a
      · exact ⟨a.2.2.1, f, a.2.2.2⟩
      · exact absurd hc a.2.1
      · omega
      · omega
      · omega
      · omega
theorem ac_close {pr : Int} {t : Nat → Int32} {n f s k : Nat} {o : List Bool} (h : ac pr t n f s o k) (hk : k < n) (hs : s = 0 ∨ s = 3 ∨ s = 2) (hc : (t k).toInt = 41) : true ∈ o ∧ ∃ f', ac pr t n f' 3 (te (te o).tail) (k + 1) := by
  match f, h with
  | f + 1, h =>
    rcases h with a | ⟨_, a⟩
    · omega
    · rcases a with a | a | a | a | a | a
      · omega
      · obtain ⟨_, _, j, u, _⟩ := a
        unfold un at u; omega
      · omega
      · omega
      · omega
      · exact ⟨a.2.2.1, f, a.2.2.2⟩
theorem ac_conn {pr : Int} {t : Nat → Int32} {n f s k : Nat} {o : List Bool} (h : ac pr t n f s o k) (hk : k < n) (hs : s = 0 ∨ s = 3 ∨ s = 2) (hc : (t k).toInt = 38 ∨ (t k).toInt = 124) : ∃ f', ac pr t n f' 0 (te o) (k + 1) := by
  match f, h with
  | f + 1, h =>
    rcases h with a | ⟨_, a⟩
    · omega
    · rcases a with a | a | a | a | a | a
      · omega
      · obtain ⟨_, _, j, u, _⟩ := a
        unfold un at u; omega
      · omega
      · omega
      · exact ⟨f, a.2.2⟩
      · omega
theorem ac_else {pr : Int} {t : Nat → Int32} {n f s k : Nat} {o : List Bool} (h : ac pr t n f s o k) (hk : k < n) (hs : s = 0 ∨ s = 3 ∨ s = 2 ∧ (n ≤ k ∨ ¬ ((t k).toInt = 43 ∨ (t k).toInt = 45))) (hc : ¬ ((t k).toInt = 33 ∨ (t k).toInt = 40 ∨ (t k).toInt = 41 ∨ (t k).toInt = 38 ∨ (t k).toInt = 124)) : ac pr t n f 0 o k := by
  match f, h with
  | f + 1, h =>
    rcases h with a | ⟨_, a⟩
    · omega
    · rcases a with a | a | a | a | a | a
      · omega
      · exact Or.inr ⟨hk, Or.inr (Or.inl ⟨rfl, a.2⟩)⟩
      · omega
      · omega
      · omega
      · omega
theorem ct_te : ∀ o : List Bool, (te o).count true = o.count true
  | [] => rfl
  | false :: r => by rw [te_cons_f, ct_te r]; simp
  | true :: r => by rw [te_cons_t]
theorem ct_close {o : List Bool} (h : true ∈ o) : (te (te o).tail).count true + 1 = o.count true := by
  obtain ⟨r, hr⟩ := te_hd h
  rw [ct_te, ← ct_te o, hr]
  simp
theorem ln_close (o : List Bool) : (te (te o).tail).length ≤ o.length := by
  have a := te_len (te o).tail
  have b := te_len o
  have c : (te o).tail.length = (te o).length - 1 := List.length_tail
  omega
/-- where a walk through a text may stand -/
def MI (pr : Int) (t : Nat → Int32) (n : Nat) (B : Nat) (d z : Int) : Prop := ∃ f s q : Nat, ∃ o : List Bool, z = B + q ∧ q ≤ n ∧ d = o.count true ∧ o.length ≤ 5 ∧ (s = 0 ∨ s = 3 ∨ s = 2 ∧ (n ≤ q ∨ ¬ ((t q).toInt = 43 ∨ (t q).toInt = 45))) ∧ ac pr t n f s o q
