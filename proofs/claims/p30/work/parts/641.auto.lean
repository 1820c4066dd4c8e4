/-! the reference's automaton as a function, and what it does step by step -/
def tA (t : Nat → Int32) (n k : Nat) : Int := if k < n then (t k).toInt else -1
def bu (pr : Int) (t : Nat → Int32) (n k : Nat) : Int :=
  if tA t n k = 109 then (k : Int) + 1
  else if tA t n k = 120 ∨ tA t n k = 99 then (if 48 ≤ tA t n (k + 1) ∧ tA t n (k + 1) < 48 + pr then (k : Int) + 2 else -2 - (k : Int))
  else if ¬ (48 ≤ tA t n k ∧ tA t n k ≤ 57) then -1 - (k : Int)
  else if 48 ≤ tA t n (k + 1) ∧ tA t n (k + 1) ≤ 57 then (k : Int) + 2 else (k : Int) + 1
theorem bu_gt {pr : Int} {t : Nat → Int32} {n k : Nat} (h : 0 ≤ bu pr t n k) : (k : Int) < bu pr t n k := by
  unfold bu at h ⊢
  split at h <;> split <;> (try omega)
  all_goals (split at h <;> split <;> (try omega))
  all_goals (split at h <;> split <;> (try omega))
  all_goals (split at h <;> split <;> omega)
def cf (pr : Int) (t : Nat → Int32) (n : Nat) : Nat → Nat → List Bool → Nat → Int
  | 0, _, _, k => k
  | f + 1, s, o, k =>
    if n ≤ k then (if s < 2 ∨ true ∈ o then (n : Int) else -1)
    else if s = 0 ∧ ((t k).toInt = 33 ∨ (t k).toInt = 40) then (if o.length = 5 then (k : Int) else cf pr t n f 0 (decide ((t k).toInt = 40) :: o) (k + 1))
    else if s = 0 then (if bu pr t n k < 0 then -1 - bu pr t n k else cf pr t n f 1 o (bu pr t n k).toNat)
    else if ((t k).toInt = 43 ∨ (t k).toInt = 45) ∧ s < 3 then (if bu pr t n (k + 1) < 0 then -1 - bu pr t n (k + 1) else cf pr t n f s o (bu pr t n (k + 1)).toNat)
    else if ((t k).toInt = 61 ∨ (t k).toInt = 60 ∨ (t k).toInt = 62) ∧ s = 1 then (if bu pr t n (k + 1) < 0 then -1 - bu pr t n (k + 1) else cf pr t n f 2 o (bu pr t n (k + 1)).toNat)
    else if ((t k).toInt = 38 ∨ (t k).toInt = 124) ∧ 1 < s then cf pr t n f 0 (te o) (k + 1)
    else if (t k).toInt = 41 ∧ 1 < s ∧ true ∈ o then cf pr t n f 3 (te (te o).tail) (k + 1)
    else (k : Int)
theorem cf_s (pr : Int) (t : Nat → Int32) (n f s : Nat) (o : List Bool) (k : Nat) : cf pr t n (f + 1) s o k =
    if n ≤ k then (if s < 2 ∨ true ∈ o then (n : Int) else -1)
    else if s = 0 ∧ ((t k).toInt = 33 ∨ (t k).toInt = 40) then (if o.length = 5 then (k : Int) else cf pr t n f 0 (decide ((t k).toInt = 40) :: o) (k + 1))
    else if s = 0 then (if bu pr t n k < 0 then -1 - bu pr t n k else cf pr t n f 1 o (bu pr t n k).toNat)
    else if ((t k).toInt = 43 ∨ (t k).toInt = 45) ∧ s < 3 then (if bu pr t n (k + 1) < 0 then -1 - bu pr t n (k + 1) else cf pr t n f s o (bu pr t n (k + 1)).toNat)
    else if ((t k).toInt = 61 ∨ (t k).toInt = 60 ∨ (t k).toInt = 62) ∧ s = 1 then (if bu pr t n (k + 1) < 0 then -1 - bu pr t n (k + 1) else cf pr t n f 2 o (bu pr t n (k + 1)).toNat)
    else if ((t k).toInt = 38 ∨ (t k).toInt = 124) ∧ 1 < s then cf pr t n f 0 (te o) (k + 1)
    else if (t k).toInt = 41 ∧ 1 < s ∧ true ∈ o then cf pr t n f 3 (te (te o).tail) (k + 1)
    else (k : Int) := rfl
theorem cf_fuel {pr : Int} {t : Nat → Int32} {n : Nat} : ∀ (f g s : Nat) (o : List Bool) (k : Nat), n - k < f → n - k < g → cf pr t n f s o k = cf pr t n g s o k := by
  intro f
  induction f with
  | zero => intro g s o k h; exact absurd h (Nat.not_lt_zero _)
  | succ f ih =>
    intro g s o k hf hg
    match g, hg with
    | 0, hg => exact absurd hg (Nat.not_lt_zero _)
    | g + 1, hg =>
      rw [cf_s, cf_s]
      by_cases hk : n ≤ k
      · rw [if_pos hk, if_pos hk]
      · rw [if_neg hk, if_neg hk]
        have ih1 : ∀ (s' : Nat) (o' : List Bool) (k' : Nat), k < k' → cf pr t n f s' o' k' = cf pr t n g s' o' k' := fun s' o' k' h => ih g s' o' k' (by omega) (by omega)
        rw [ih1 0 _ (k + 1) (by omega), ih1 0 _ (k + 1) (by omega), ih1 3 _ (k + 1) (by omega)]
        have hb : ∀ (s' j : Nat) (o' : List Bool), k ≤ j → (if bu pr t n j < 0 then -1 - bu pr t n j else cf pr t n f s' o' (bu pr t n j).toNat) = (if bu pr t n j < 0 then -1 - bu pr t n j else cf pr t n g s' o' (bu pr t n j).toNat) := fun s' j o' hj => by
          by_cases h : bu pr t n j < 0
          · rw [if_pos h, if_pos h]
          · rw [if_neg h, if_neg h]
            exact ih1 _ _ _ (by have := bu_gt (pr := pr) (t := t) (n := n) (k := j) (by omega); omega)
        rw [hb 1 k o (by omega), hb s (k + 1) o (by omega), hb 2 (k + 1) o (by omega)]
/-- the automaton from state s, with o open, at k: the place of the fault, or -1 -/
def Au (pr : Int) (t : Nat → Int32) (n s : Nat) (o : List Bool) (k : Nat) : Int := cf pr t n (n + 1) s o k
/-- a unit at k, then state s -/
def Uu (pr : Int) (t : Nat → Int32) (n s : Nat) (o : List Bool) (k : Nat) : Int := if bu pr t n k < 0 then -1 - bu pr t n k else Au pr t n s o (bu pr t n k).toNat
section AUTO
variable {pr : Int} {t : Nat → Int32} {n s k : Nat} {o : List Bool}
theorem Au_end (h : n ≤ k) : Au pr t n s o k = if s < 2 ∨ true ∈ o then (n : Int) else -1 := by
  show cf pr t n (n + 1) s o k = _
  rw [cf_s, if_pos h]
theorem Au_go (h : k < n) : Au pr t n s o k =
    if s = 0 ∧ ((t k).toInt = 33 ∨ (t k).toInt = 40) then (if o.length = 5 then (k : Int) else Au pr t n 0 (decide ((t k).toInt = 40) :: o) (k + 1))
    else if s = 0 then Uu pr t n 1 o k
    else if ((t k).toInt = 43 ∨ (t k).toInt = 45) ∧ s < 3 then Uu pr t n s o (k + 1)
    else if ((t k).toInt = 61 ∨ (t k).toInt = 60 ∨ (t k).toInt = 62) ∧ s = 1 then Uu pr t n 2 o (k + 1)
    else if ((t k).toInt = 38 ∨ (t k).toInt = 124) ∧ 1 < s then Au pr t n 0 (te o) (k + 1)
    else if (t k).toInt = 41 ∧ 1 < s ∧ true ∈ o then Au pr t n 3 (te (te o).tail) (k + 1)
    else (k : Int) := by
  show cf pr t n (n + 1) s o k = _
  rw [cf_s, if_neg (by omega)]
  have ih1 : ∀ (s' : Nat) (o' : List Bool) (k' : Nat), k < k' → cf pr t n n s' o' k' = Au pr t n s' o' k' := fun s' o' k' h' => cf_fuel n (n + 1) s' o' k' (by omega) (by omega)
  rw [ih1 0 _ (k + 1) (by omega), ih1 0 _ (k + 1) (by omega), ih1 3 _ (k + 1) (by omega)]
  have hb : ∀ (s' j : Nat) (o' : List Bool), k ≤ j → (if bu pr t n j < 0 then -1 - bu pr t n j else cf pr t n n s' o' (bu pr t n j).toNat) = Uu pr t n s' o' j := fun s' j o' hj => by
    unfold Uu
    by_cases h : bu pr t n j < 0
    · rw [if_pos h, if_pos h]
    · rw [if_neg h, if_neg h]
      exact ih1 _ _ _ (by have := bu_gt (pr := pr) (t := t) (n := n) (k := j) (by omega); omega)
  rw [hb 1 k o (by omega), hb s (k + 1) o (by omega), hb 2 (k + 1) o (by omega)]
theorem bu_end (h : n ≤ k) : bu pr t n k = -1 - (k : Int) := by
  unfold bu tA
  rw [if_neg (by omega : ¬ k < n)]
  rw [if_neg (by omega), if_neg (by omega), if_pos (by omega)]
theorem A_open (h : k < n) (hc : (t k).toInt = 33 ∨ (t k).toInt = 40) : Au pr t n 0 o k = if o.length = 5 then (k : Int) else Au pr t n 0 (decide ((t k).toInt = 40) :: o) (k + 1) := by
  rw [Au_go h, if_pos ⟨rfl, hc⟩]
theorem A_unit (hk : k ≤ n) (hc : n ≤ k ∨ ¬ ((t k).toInt = 33 ∨ (t k).toInt = 40)) : Au pr t n 0 o k = Uu pr t n 1 o k := by
  by_cases h : k < n
  · rw [Au_go h, if_neg (fun q => (hc.resolve_left (by omega)) q.2), if_pos rfl]
  · rw [Au_end (by omega), if_pos (Or.inl (by omega)), Uu, bu_end (by omega), if_pos (by omega)]
    omega
theorem A_plus (h : k < n) (hc : (t k).toInt = 43 ∨ (t k).toInt = 45) (hs : s = 1 ∨ s = 2) : Au pr t n s o k = Uu pr t n s o (k + 1) := by
  rw [Au_go h, if_neg (fun q => by omega), if_neg (fun q => by omega), if_pos ⟨hc, by omega⟩]
theorem A_rel (h : k < n) (hc : (t k).toInt = 61 ∨ (t k).toInt = 60 ∨ (t k).toInt = 62) : Au pr t n 1 o k = Uu pr t n 2 o (k + 1) := by
  rw [Au_go h, if_neg (fun q => by omega), if_neg (fun q => by omega), if_neg (fun q => by omega), if_pos ⟨hc, rfl⟩]
theorem A_stop1 (hk : k ≤ n) (hc : n ≤ k ∨ ¬ ((t k).toInt = 43 ∨ (t k).toInt = 45 ∨ (t k).toInt = 61 ∨ (t k).toInt = 60 ∨ (t k).toInt = 62)) : Au pr t n 1 o k = k := by
  by_cases h : k < n
  · rw [Au_go h, if_neg (fun q => by omega), if_neg (fun q => by omega), if_neg (fun q => by omega), if_neg (fun q => by omega), if_neg (fun q => by omega), if_neg (fun q => by omega)]
  · rw [Au_end (by omega), if_pos (Or.inl (by omega))]
    omega
theorem A_3 (h : k < n) : Au pr t n 3 o k = if (t k).toInt = 38 ∨ (t k).toInt = 124 then Au pr t n 0 (te o) (k + 1) else if (t k).toInt = 41 ∧ true ∈ o then Au pr t n 3 (te (te o).tail) (k + 1) else (k : Int) := by
  rw [Au_go h, if_neg (fun q => by omega), if_neg (fun q => by omega), if_neg (fun q => by omega), if_neg (fun q => by omega)]
  simp
theorem A_23 (hc : n ≤ k ∨ ¬ ((t k).toInt = 43 ∨ (t k).toInt = 45)) : Au pr t n 2 o k = Au pr t n 3 o k := by
  by_cases h : k < n
  · have hc' := hc.resolve_left (by omega)
    have e := Au_go (pr := pr) (t := t) (n := n) (s := 2) (k := k) (o := o) h
    rw [if_neg (fun q => by omega), if_neg (fun q => by omega), if_neg (fun q => hc' q.1), if_neg (fun q => by omega)] at e
    rw [e, A_3 h]
    simp
  · rw [Au_end (by omega), Au_end (by omega)]
    simp
theorem A_not : Au pr t n 3 (false :: o) k = Au pr t n 3 o k := by
  by_cases h : k < n
  · rw [A_3 h, A_3 h, te_cons_f]
    simp
  · rw [Au_end (by omega), Au_end (by omega)]
    simp
theorem A_te : ∀ o : List Bool, Au pr t n 3 (te o) k = Au pr t n 3 o k
  | [] => rfl
  | false :: r => by rw [te_cons_f, A_te r, A_not]
  | true :: r => by rw [te_cons_t]
theorem A_and (h : k < n) (hc : (t k).toInt = 38 ∨ (t k).toInt = 124) (ho : te o = o) : Au pr t n 3 o k = Au pr t n 0 o (k + 1) := by
  rw [A_3 h, if_pos hc, ho]
theorem A_close (h : k < n) (hc : (t k).toInt = 41) : Au pr t n 3 (true :: o) k = Au pr t n 3 o (k + 1) := by
  rw [A_3 h, if_neg (by omega), if_pos ⟨hc, by simp⟩, te_cons_t]
  exact A_te o
theorem A_stop3 (hk : k ≤ n) (hc : n ≤ k ∨ ¬ ((t k).toInt = 38 ∨ (t k).toInt = 124)) (h4 : n ≤ k ∨ ¬ (t k).toInt = 41 ∨ true ∉ o) (ho : k < n ∨ true ∈ o) : Au pr t n 3 o k = k := by
  by_cases h : k < n
  · rw [A_3 h, if_neg (hc.resolve_left (by omega)), if_neg (fun q => (h4.resolve_left (by omega)).elim (fun z => z q.1) (fun z => z q.2))]
  · rw [Au_end (by omega), if_pos (Or.inr (ho.resolve_left h))]
    omega
theorem A_else (h : k < n) (h1 : ¬ s = 0) (h2 : ¬ (((t k).toInt = 43 ∨ (t k).toInt = 45) ∧ s < 3)) (h3 : ¬ (((t k).toInt = 61 ∨ (t k).toInt = 60 ∨ (t k).toInt = 62) ∧ s = 1)) (h4 : ¬ (((t k).toInt = 38 ∨ (t k).toInt = 124) ∧ 1 < s)) (h5 : ¬ ((t k).toInt = 41 ∧ 1 < s ∧ true ∈ o)) : Au pr t n s o k = k := by
  rw [Au_go h, if_neg (fun q => h1 q.1), if_neg h1, if_neg h2, if_neg h3, if_neg h4, if_neg h5]
theorem A_amp (h : k < n) (hs : 1 < s) (hc : (t k).toInt = 38 ∨ (t k).toInt = 124) : Au pr t n s o k = Au pr t n 0 (te o) (k + 1) := by
  rw [Au_go h, if_neg (fun q => by omega), if_neg (by omega), if_neg (fun q => by omega), if_neg (fun q => by omega), if_pos ⟨hc, hs⟩]
theorem A_cls (h : k < n) (hs : 1 < s) (hc : (t k).toInt = 41) (ho : true ∈ o) : Au pr t n s o k = Au pr t n 3 (te (te o).tail) (k + 1) := by
  rw [Au_go h, if_neg (fun q => by omega), if_neg (by omega), if_neg (fun q => by omega), if_neg (fun q => by omega), if_neg (fun q => by omega), if_pos ⟨hc, hs, ho⟩]
end AUTO
theorem tA_congr {t t' : Nat → Int32} {n : Nat} (h : ∀ j, j < n → t j = t' j) (k : Nat) : tA t n k = tA t' n k := by
  unfold tA
  by_cases q : k < n
  · rw [if_pos q, if_pos q, h k q]
  · rw [if_neg q, if_neg q]
theorem bu_congr {pr : Int} {t t' : Nat → Int32} {n : Nat} (h : ∀ j, j < n → t j = t' j) (k : Nat) : bu pr t n k = bu pr t' n k := by
  unfold bu
  rw [tA_congr h k, tA_congr h (k + 1)]
theorem cf_congr {pr : Int} {t t' : Nat → Int32} {n : Nat} (h : ∀ j, j < n → t j = t' j) : ∀ (f s : Nat) (o : List Bool) (k : Nat), cf pr t n f s o k = cf pr t' n f s o k := by
  intro f
  induction f with
  | zero => intro s o k; rfl
  | succ f ih =>
    intro s o k
    rw [cf_s, cf_s]
    by_cases hk : n ≤ k
    · rw [if_pos hk, if_pos hk]
    · rw [if_neg hk, if_neg hk, h k (by omega), bu_congr h k, bu_congr h (k + 1)]
      simp only [ih]
theorem Au_congr {pr : Int} {t t' : Nat → Int32} {n : Nat} (h : ∀ j, j < n → t j = t' j) (s : Nat) (o : List Bool) (k : Nat) : Au pr t n s o k = Au pr t' n s o k := cf_congr h _ s o k
/-- no fault: the text is one -/
theorem bu_un {pr : Int} {t : Nat → Int32} {n k : Nat} (hp : pr ≤ 4) (h : 0 ≤ bu pr t n k) : un pr t n k (bu pr t n k).toNat := by
  have hk : k < n := by
    rcases Nat.lt_or_ge k n with q | q
    · exact q
    · rw [bu_end q] at h; omega
  have e0 : tA t n k = (t k).toInt := by unfold tA; rw [if_pos hk]
  have e1 : k + 1 < n → tA t n (k + 1) = (t (k + 1)).toInt := fun q => by unfold tA; rw [if_pos q]
  have e2 : ¬ k + 1 < n → tA t n (k + 1) = -1 := fun q => by unfold tA; rw [if_neg q]
  unfold bu at h ⊢
  rw [e0] at h ⊢
  refine ⟨hk, ?_⟩
  by_cases q1 : k + 1 < n
  · rw [e1 q1] at h ⊢
    split at h <;> (try split at h) <;> (try split at h) <;> (try split at h) <;> omega
  · rw [e2 q1] at h ⊢
    split at h <;> (try split at h) <;> (try split at h) <;> (try split at h) <;> omega
theorem cf_ac {pr : Int} {t : Nat → Int32} {n : Nat} (hp : pr ≤ 4) : ∀ (f s : Nat) (o : List Bool) (k : Nat), o.length ≤ 5 → n - k < f → cf pr t n f s o k = -1 → ∃ g, ac pr t n g s o k := by
  intro f
  induction f with
  | zero => intro s o k _ h; exact absurd h (Nat.not_lt_zero _)
  | succ f ih =>
    intro s o k h5 hf h
    rw [cf_s] at h
    by_cases hk : n ≤ k
    · rw [if_pos hk] at h
      by_cases q : s < 2 ∨ true ∈ o
      · rw [if_pos q] at h; omega
      · exact ⟨1, Or.inl ⟨hk, by omega, fun z => q (Or.inr z)⟩⟩
    · rw [if_neg hk] at h
      have go : ∀ (s' : Nat) (o' : List Bool) (k' : Nat), o'.length ≤ 5 → k < k' → cf pr t n f s' o' k' = -1 → ∃ g, ac pr t n g s' o' k' := fun s' o' k' a b c => ih s' o' k' a (by omega) c
      have bb : ∀ (s' j : Nat), k ≤ j → (if bu pr t n j < 0 then -1 - bu pr t n j else cf pr t n f s' o (bu pr t n j).toNat) = -1 → ∃ q, un pr t n j q ∧ ∃ g, ac pr t n g s' o q := fun s' j hj z => by
        by_cases w : bu pr t n j < 0
        · rw [if_pos w] at z; omega
        · rw [if_neg w] at z
          have := bu_gt (pr := pr) (t := t) (n := n) (k := j) (by omega)
          exact ⟨_, bu_un hp (by omega), go s' o _ h5 (by omega) z⟩
      split at h
      · rename_i c1
        split at h
        · omega
        · obtain ⟨g, hg⟩ := go 0 _ (k + 1) (by simp; omega) (by omega) h
          exact ⟨g + 1, Or.inr ⟨by omega, Or.inl ⟨c1.1, c1.2, by omega, hg⟩⟩⟩
      · rename_i c1
        split at h
        · rename_i c2
          obtain ⟨q, hu, g, hg⟩ := bb 1 k (by omega) h
          exact ⟨g + 1, Or.inr ⟨by omega, Or.inr (Or.inl ⟨c2, fun z => c1 ⟨c2, z⟩, q, hu, hg⟩)⟩⟩
        · rename_i c2
          split at h
          · rename_i c3
            obtain ⟨q, hu, g, hg⟩ := bb s (k + 1) (by omega) h
            exact ⟨g + 1, Or.inr ⟨by omega, Or.inr (Or.inr (Or.inl ⟨by omega, c3.1, q, hu, hg⟩))⟩⟩
          · split at h
            · rename_i c4
              obtain ⟨q, hu, g, hg⟩ := bb 2 (k + 1) (by omega) h
              exact ⟨g + 1, Or.inr ⟨by omega, Or.inr (Or.inr (Or.inr (Or.inl ⟨c4.2, c4.1, q, hu, hg⟩)))⟩⟩
            · split at h
              · rename_i c5
                obtain ⟨g, hg⟩ := go 0 _ (k + 1) (by have := te_len o; omega) (by omega) h
                exact ⟨g + 1, Or.inr ⟨by omega, Or.inr (Or.inr (Or.inr (Or.inr (Or.inl ⟨c5.2, c5.1, hg⟩))))⟩⟩
              · split at h
                · rename_i c6
                  obtain ⟨g, hg⟩ := go 3 _ (k + 1) (by have a := te_len o; have b := te_len (te o).tail; rw [List.length_tail] at b; omega) (by omega) h
                  exact ⟨g + 1, Or.inr ⟨by omega, Or.inr (Or.inr (Or.inr (Or.inr (Or.inr ⟨c6.2.1, c6.1, c6.2.2, hg⟩))))⟩⟩
                · omega
theorem Au_WF {pr : Int} {t : Nat → Int32} {n : Nat} (hp : pr ≤ 4) (h : Au pr t n 0 [] 0 = -1) : WF pr t n := cf_ac hp (n + 1) 0 [] 0 (by simp) (by omega) h
