/-! a text's bytes beyond its end are free -/
theorem un_congr {pr : Int} {t t' : Nat → Int32} {n k j : Nat} (h : ∀ q, q < n → t q = t' q) (hu : un pr t n k j) : un pr t' n k j := by
  obtain ⟨hk, hr⟩ := hu
  refine ⟨hk, ?_⟩
  rw [← h k hk]
  by_cases h1 : k + 1 < n
  · rw [← h (k + 1) h1]; exact hr
  · rcases hr with a | a | a
    · exact Or.inl a
    · exact absurd a.2.1 h1
    · refine Or.inr (Or.inr ⟨a.1, ?_⟩)
      rcases a.2 with b | b
      · exact absurd b.1.1 h1
      · exact Or.inr ⟨fun q => h1 q.1, b.2⟩
theorem ac_congr {pr : Int} {t t' : Nat → Int32} {n : Nat} (h : ∀ q, q < n → t q = t' q) : ∀ (f s : Nat) (o : List Bool) (k : Nat), ac pr t n f s o k → ac pr t' n f s o k := by
  intro f
  induction f with
  | zero => intro s o k ha; exact ha
  | succ f ih =>
    intro s o k ha
    rcases ha with a | ⟨hk, a⟩
    · exact Or.inl a
    · refine Or.inr ⟨hk, ?_⟩
      rw [← h k hk]
      rcases a with a | a | a | a | a | a
      · exact Or.inl ⟨a.1, a.2.1, a.2.2.1, ih _ _ _ a.2.2.2⟩
      · obtain ⟨a1, a2, j, a3, a4⟩ := a
        exact Or.inr (Or.inl ⟨a1, a2, j, un_congr h a3, ih _ _ _ a4⟩)
      · obtain ⟨a1, a2, j, a3, a4⟩ := a
        exact Or.inr (Or.inr (Or.inl ⟨a1, a2, j, un_congr h a3, ih _ _ _ a4⟩))
      · obtain ⟨a1, a2, j, a3, a4⟩ := a
        exact Or.inr (Or.inr (Or.inr (Or.inl ⟨a1, a2, j, un_congr h a3, ih _ _ _ a4⟩)))
      · exact Or.inr (Or.inr (Or.inr (Or.inr (Or.inl ⟨a.1, a.2.1, ih _ _ _ a.2.2⟩))))
      · exact Or.inr (Or.inr (Or.inr (Or.inr (Or.inr ⟨a.1, a.2.1, a.2.2.1, ih _ _ _ a.2.2.2⟩))))
theorem WF_congr {pr : Int} {t t' : Nat → Int32} {n : Nat} (h : ∀ q, q < n → t q = t' q) (hw : WF pr t n) : WF pr t' n := by
  obtain ⟨f, hf⟩ := hw
  exact ⟨f, ac_congr h f 0 [] 0 hf⟩
theorem im_read {σ τ : Sg} (hI : IM σ.1) {c n0 : Int32} (hc : 0 ≤ c.toInt ∧ c.toInt ≤ 2) (hn : 0 ≤ n0.toInt ∧ n0.toInt ≤ 60) (hW : WF (σ.1 71 0).toInt (σ.1 86) n0.toInt.toNat) (kF : Fr [85, 109] [(71, 17), (71, 49)] σ τ) (k17 : (τ.1 71 17).toInt = 0) (kx : ∀ j : Nat, (j : Int) < n0.toInt → τ.1 85 (60 * c.toInt.toNat + j) = σ.1 86 j) (ko : ∀ j : Nat, ¬ (60 * c.toInt.toNat ≤ j ∧ j < 60 * c.toInt.toNat + 60) → τ.1 85 j = σ.1 85 j) : IM (sV τ 84 c.toNatClampNeg n0).1 := by
  have f : ∀ q, (71, q) ∉ [(71, 17), (71, 49)] → τ.1 71 q = σ.1 71 q := fun q h => kF.f 71 q (by decide) h
  have a : ∀ i, i ∉ [85, 109] → i ≠ 71 → τ.1 i = σ.1 i := fun i h1 h2 => kF.a i h1 (by intro x hx; simp at hx; rcases hx with rfl | rfl <;> exact fun q => h2 q.symm)
  refine ⟨?_, ?_, ?_, ?_, ?_, ?_, ?_⟩
  · show RC (τ.1 71 0) (τ.1 71 8) (τ.1 71 10) (τ.1 73) (τ.1 79) (τ.1 74) (τ.1 76) (τ.1 80) (τ.1 81) (τ.1 82)
    rw [f 0 (by decide), f 8 (by decide), f 10 (by decide), a 73 (by decide) (by decide), a 79 (by decide) (by decide), a 74 (by decide) (by decide), a 76 (by decide) (by decide), a 80 (by decide) (by decide), a 81 (by decide) (by decide), a 82 (by decide) (by decide)]
    exact hI.1
  · show CK (τ.1 71 8) (τ.1 79) (τ.1 78)
    rw [f 8 (by decide), a 79 (by decide) (by decide), a 78 (by decide) (by decide)]; exact hI.2.1
  · show 0 ≤ (τ.1 71 17).toInt ∧ (τ.1 71 17).toInt ≤ 60
    omega
  · show ∀ j, -1 ≤ (τ.1 87 j).toInt ∧ (τ.1 87 j).toInt ≤ 20
    rw [a 87 (by decide) (by decide)]; exact hI.ls
  · show TX (τ.1 71 0) (upd (τ.1 84) c.toNatClampNeg n0) (τ.1 85)
    rw [f 0 (by decide), a 84 (by decide) (by decide)]
    intro e
    have he := hI.tx e
    by_cases q : e = c.toNatClampNeg
    · rw [q, pk_us]
      refine ⟨hn, fun _ _ => WF_congr (fun j hj => ?_) hW⟩
      exact (kx j (by omega)).symm
    · rw [pk_un q]
      refine ⟨he.1, fun h3 h0 => WF_congr (fun j hj => ?_) (he.2 h3 h0)⟩
      have hcc : c.toNatClampNeg = c.toInt.toNat := rfl
      have := he.1
      exact (ko (60 * e + j) (by omega)).symm
  · show CU (τ.1 71 39) (τ.1 71 0) (τ.1 71 40) (τ.1 73) (τ.1 103) (τ.1 104) (τ.1 105)
    rw [f 39 (by decide), f 0 (by decide), f 40 (by decide), a 73 (by decide) (by decide), a 103 (by decide) (by decide), a 104 (by decide) (by decide), a 105 (by decide) (by decide)]; exact hI.cu
  · show ¬ (τ.1 71 21).toInt = 0 → RC (τ.1 71 22) (τ.1 71 30) (τ.1 71 32) (τ.1 90) (τ.1 96) (τ.1 91) (τ.1 93) (τ.1 97) (τ.1 98) (τ.1 99) ∧ CK (τ.1 71 30) (τ.1 96) (τ.1 95) ∧ TX (τ.1 71 22) (τ.1 101) (τ.1 102)
    exact img_keep hI (fun i hi => a i (by simp at hi ⊢; omega) (by simp at hi; omega)) (fun k hk => f k (by simp at hk ⊢; omega))
