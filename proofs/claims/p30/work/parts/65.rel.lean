def RlT (V : Nat → Nat → Int32) : Prop := (V 66 0).toInt = (V 71 17).toInt ∧ ∀ j : Nat, (j : Int) < (V 66 0).toInt → V 67 j = V 86 j
def RlP (V : Nat → Nat → Int32) : Prop := V 1 0 = V 71 0 ∧ (∀ j : Nat, j < 4 → V 2 j = V 72 j) ∧ ((V 0 10).toInt = 0 ↔ (V 71 21).toInt = 0) ∧ (¬ (V 0 10).toInt = 0 → V 14 0 = V 71 22 ∧ ∀ j : Nat, j < 4 → V 15 j = V 89 j)
def RlA (V : Nat → Nat → Int32) : Prop := RlT V ∧ RlP V
theorem RlT.keep {cs : List Nat} {fs : List (Nat × Nat)} {σ τ : Sg} (h : RlT σ.1) (hF : Fr cs fs σ τ) (hc : 66 ∉ cs ∧ 71 ∉ cs ∧ 67 ∉ cs ∧ 86 ∉ cs) (hf : (66, 0) ∉ fs ∧ (71, 17) ∉ fs ∧ ∀ q ∈ fs, q.1 ≠ 67 ∧ q.1 ≠ 86) : RlT τ.1 := by
  unfold RlT
  rw [hF.f 66 0 hc.1 hf.1, hF.f 71 17 hc.2.1 hf.2.1, hF.a 67 hc.2.2.1 (fun q hq => (hf.2.2 q hq).1), hF.a 86 hc.2.2.2 (fun q hq => (hf.2.2 q hq).2)]
  exact h
theorem RlP.keep {cs : List Nat} {fs : List (Nat × Nat)} {σ τ : Sg} (h : RlP σ.1) (hF : Fr cs fs σ τ) (hc : ∀ x ∈ [0, 1, 2, 14, 15, 71, 72, 89], x ∉ cs) (ha : ∀ x ∈ fs, x.1 ≠ 2 ∧ x.1 ≠ 15 ∧ x.1 ≠ 72 ∧ x.1 ≠ 89) (hf : ∀ q ∈ [(1, 0), (0, 10), (14, 0), (71, 0), (71, 21), (71, 22)], q ∉ fs) : RlP τ.1 := by
  unfold RlP
  rw [hF.f 1 0 (hc 1 (by decide)) (hf _ (by decide)), hF.f 0 10 (hc 0 (by decide)) (hf _ (by decide)), hF.f 14 0 (hc 14 (by decide)) (hf _ (by decide)), hF.f 71 0 (hc 71 (by decide)) (hf _ (by decide)), hF.f 71 21 (hc 71 (by decide)) (hf _ (by decide)), hF.f 71 22 (hc 71 (by decide)) (hf _ (by decide)), hF.a 2 (hc 2 (by decide)) (fun x hx => (ha x hx).1), hF.a 15 (hc 15 (by decide)) (fun x hx => (ha x hx).2.1), hF.a 72 (hc 72 (by decide)) (fun x hx => (ha x hx).2.2.1), hF.a 89 (hc 89 (by decide)) (fun x hx => (ha x hx).2.2.2)]
  exact h
theorem RlA.keep {cs : List Nat} {fs : List (Nat × Nat)} {σ τ : Sg} (h : RlA σ.1) (hF : Fr cs fs σ τ) (hc : ∀ x ∈ [0, 1, 2, 14, 15, 71, 72, 89], x ∉ cs) (ha : ∀ x ∈ fs, x.1 ≠ 2 ∧ x.1 ≠ 15 ∧ x.1 ≠ 72 ∧ x.1 ≠ 89) (hf : ∀ q ∈ [(1, 0), (0, 10), (14, 0), (71, 0), (71, 21), (71, 22)], q ∉ fs) (h66 : 66 ∉ cs ∧ 67 ∉ cs ∧ 86 ∉ cs) (hg : (66, 0) ∉ fs ∧ (71, 17) ∉ fs ∧ ∀ q ∈ fs, q.1 ≠ 67 ∧ q.1 ≠ 86) : RlA τ.1 := ⟨h.1.keep hF ⟨h66.1, hc 71 (by decide), h66.2⟩ hg, h.2.keep hF hc ha hf⟩
theorem lr_feed {σ τ1 τ2 : Sg} (h : RlA σ.1) (g1 : ∀ i, 71 ≤ i → τ1.1 i = σ.1 i) (g2 : ∀ i, i < 71 → τ2.1 i = τ1.1 i) {c r1 r2 : Int32} (hF1 : Fr [67] [(66, 0)] σ τ1) (hF2 : Fr [86] [(71, 17)] τ1 τ2) (F1 : ((¬ (32 ≤ c.toInt ∧ c.toInt ≤ 126) ∧ r1.toInt = -2 ∧ τ1.1 66 0 = σ.1 66 0) ∨ ((32 ≤ c.toInt ∧ c.toInt ≤ 126) ∧ 60 ≤ (σ.1 66 0).toInt ∧ r1.toInt = -4 ∧ τ1.1 66 0 = σ.1 66 0) ∨ ((32 ≤ c.toInt ∧ c.toInt ≤ 126) ∧ (σ.1 66 0).toInt < 60 ∧ r1.toInt = (σ.1 66 0).toInt + 1 ∧ (τ1.1 66 0).toInt = (σ.1 66 0).toInt + 1)) ∧ ((32 ≤ c.toInt ∧ c.toInt ≤ 126 ∧ (σ.1 66 0).toInt < 60) → τ1.1 67 = upd (σ.1 67) (σ.1 66 0).toNatClampNeg c) ∧ (¬ (32 ≤ c.toInt ∧ c.toInt ≤ 126 ∧ (σ.1 66 0).toInt < 60) → τ1.1 67 = σ.1 67)) (F2 : ((¬ (32 ≤ c.toInt ∧ c.toInt ≤ 126) ∧ r2.toInt = -2 ∧ τ2.1 71 17 = τ1.1 71 17) ∨ ((32 ≤ c.toInt ∧ c.toInt ≤ 126) ∧ 60 ≤ (τ1.1 71 17).toInt ∧ r2.toInt = -4 ∧ τ2.1 71 17 = τ1.1 71 17) ∨ ((32 ≤ c.toInt ∧ c.toInt ≤ 126) ∧ (τ1.1 71 17).toInt < 60 ∧ r2.toInt = (τ1.1 71 17).toInt + 1 ∧ (τ2.1 71 17).toInt = (τ1.1 71 17).toInt + 1)) ∧ ((32 ≤ c.toInt ∧ c.toInt ≤ 126 ∧ (τ1.1 71 17).toInt < 60) → τ2.1 86 = upd (τ1.1 86) (τ1.1 71 17).toNatClampNeg c) ∧ (¬ (32 ≤ c.toInt ∧ c.toInt ≤ 126 ∧ (τ1.1 71 17).toInt < 60) → τ2.1 86 = τ1.1 86)) : RlA τ2.1 ∧ r1.toInt = r2.toInt := by
  have hP : RlP τ2.1 := (h.2.keep hF1 (by decide) (by decide) (by decide)).keep hF2 (by decide) (by decide) (by decide)
  have hT : (σ.1 66 0).toInt = (σ.1 71 17).toInt := h.1.1
  have hB := h.1.2
  have x67 : τ2.1 67 = τ1.1 67 := g2 67 (by omega)
  have y86_ : τ1.1 86 = σ.1 86 := g1 86 (by omega)
  have y71_ : τ1.1 71 = σ.1 71 := g1 71 (by omega)
  have e1 : (τ2.1 66 0).toInt = (τ1.1 66 0).toInt := by rw [g2 66 (by omega)]
  have e2 : (τ1.1 71 17).toInt = (σ.1 71 17).toInt := by rw [g1 71 (by omega)]
  obtain ⟨F1, G1, G2⟩ := F1
  obtain ⟨F2, K1, K2⟩ := F2
  have hL : (τ2.1 66 0).toInt = (τ2.1 71 17).toInt ∧ r1.toInt = r2.toInt := by
    rcases F1 with ⟨a1, a2, a3⟩ | ⟨a1, a2, a3, a4⟩ | ⟨a1, a2, a3, a4⟩ <;> rcases F2 with ⟨b1, b2, b3⟩ | ⟨b1, b2, b3, b4⟩ | ⟨b1, b2, b3, b4⟩ <;> first | (have a := congrArg Int32.toInt a3; have b := congrArg Int32.toInt b3; omega) | (have a := congrArg Int32.toInt a4; have b := congrArg Int32.toInt b4; omega) | omega
  refine ⟨⟨⟨hL.1, fun j hj => ?_⟩, hP⟩, hL.2⟩
  rw [x67]
  rcases F1 with ⟨a1, a2, a3⟩ | ⟨a1, a2, a3, a4⟩ | ⟨a1, a2, a3, a4⟩
  · rw [G2 (by omega), K2 (by omega), y86_]
    have a := congrArg Int32.toInt a3
    exact hB j (by omega)
  · rw [G2 (by omega), K2 (by omega), y86_]
    have a := congrArg Int32.toInt a4
    exact hB j (by omega)
  · rw [G1 (by omega), K1 (by omega), y86_, show (τ1.1 71 17).toNatClampNeg = (σ.1 66 0).toNatClampNeg by unfold Int32.toNatClampNeg; omega]
    by_cases e : j = (σ.1 66 0).toNatClampNeg
    · rw [e, pk_us, pk_us]
    · rw [pk_un e, pk_un e]
      exact hB j (by unfold Int32.toNatClampNeg at e; omega)
theorem lr_wipe {σ τ1 τ2 : Sg} (h : RlA σ.1) (g1 : ∀ i, 71 ≤ i → τ1.1 i = σ.1 i) (g2 : ∀ i, i < 71 → τ2.1 i = τ1.1 i) {r1 r2 : Int32} (hF1 : Fr [] [(66, 0), (66, 1)] σ τ1) (hF2 : Fr [] [(71, 17)] τ1 τ2) (F1 : r1 = σ.1 66 0 ∧ (τ1.1 66 0).toInt = 0) (F2 : r2 = τ1.1 71 17 ∧ (τ2.1 71 17).toInt = 0) : RlA τ2.1 ∧ r1.toInt = r2.toInt := by
  have hP : RlP τ2.1 := (h.2.keep hF1 (by decide) (by decide) (by decide)).keep hF2 (by decide) (by decide) (by decide)
  have hT : (σ.1 66 0).toInt = (σ.1 71 17).toInt := h.1.1
  have hB := h.1.2
  have x67 : τ2.1 67 = τ1.1 67 := g2 67 (by omega)
  have y86_ : τ1.1 86 = σ.1 86 := g1 86 (by omega)
  have y71_ : τ1.1 71 = σ.1 71 := g1 71 (by omega)
  have e1 : (τ2.1 66 0).toInt = (τ1.1 66 0).toInt := by rw [g2 66 (by omega)]
  have e2 : (τ1.1 71 17).toInt = (σ.1 71 17).toInt := by rw [g1 71 (by omega)]
  exact ⟨⟨⟨show (τ2.1 66 0).toInt = (τ2.1 71 17).toInt by omega, fun j hj => by omega⟩, hP⟩, by rw [F1.1, F2.1]; omega⟩
theorem lr_tell {σ τ1 τ2 : Sg} (h : RlA σ.1) (g1 : ∀ i, 71 ≤ i → τ1.1 i = σ.1 i) (g2 : ∀ i, i < 71 → τ2.1 i = τ1.1 i)  (hF1 : Fr [3, 4, 5, 6, 7, 8, 9, 10, 11, 12, 13] [(1, 1), (1, 2), (61, 1), (37, 3), (38, 3), (39, 3), (66, 1), (70, 2), (70, 3), (70, 4), (70, 5), (66, 0)] σ τ1) (hF2 : Fr [73, 74, 75, 76, 77, 78, 79, 80, 81, 82, 83, 117, 118, 119, 120] [(71, 8), (71, 10), (71, 39), (71, 17), (71, 59), (71, 64), (71, 65)] τ1 τ2) (F1 : (τ1.1 66 0).toInt = 0) (F2 : (τ2.1 71 17).toInt = 0) : RlA τ2.1 := by
  have hP : RlP τ2.1 := (h.2.keep hF1 (by decide) (by decide) (by decide)).keep hF2 (by decide) (by decide) (by decide)
  have hT : (σ.1 66 0).toInt = (σ.1 71 17).toInt := h.1.1
  have hB := h.1.2
  have x67 : τ2.1 67 = τ1.1 67 := g2 67 (by omega)
  have y86_ : τ1.1 86 = σ.1 86 := g1 86 (by omega)
  have y71_ : τ1.1 71 = σ.1 71 := g1 71 (by omega)
  have e1 : (τ2.1 66 0).toInt = (τ1.1 66 0).toInt := by rw [g2 66 (by omega)]
  have e2 : (τ1.1 71 17).toInt = (σ.1 71 17).toInt := by rw [g1 71 (by omega)]
  exact ⟨⟨show (τ2.1 66 0).toInt = (τ2.1 71 17).toInt by omega, fun j hj => by omega⟩, hP⟩
theorem lr_read {σ τ1 τ2 : Sg} (h : RlA σ.1) (g1 : ∀ i, 71 ≤ i → τ1.1 i = σ.1 i) (g2 : ∀ i, i < 71 → τ2.1 i = τ1.1 i) {c r1 r2 : Int32} (hF1 : Fr [69, 43, 44, 45] [(66, 0), (66, 1), (68, 2), (31, 0), (31, 1), (32, 0), (32, 1), (33, 0), (33, 1), (37, 3), (38, 3), (39, 3)] σ τ1) (hF2 : Fr [84, 85, 109] [(71, 17), (71, 49)] τ1 τ2) (F1 : (((0 ≤ c.toInt ∧ c.toInt ≤ 2) ∧ (τ1.1 66 0).toInt = 0) ∨ (¬ (0 ≤ c.toInt ∧ c.toInt ≤ 2) ∧ r1.toInt = -1 ∧ τ1.1 66 0 = σ.1 66 0)) ∧ ((0 ≤ c.toInt ∧ c.toInt ≤ 2 → r1.toInt = rdA (Au (σ.1 1 0).toInt (σ.1 67) (σ.1 66 0).toInt.toNat 0 [] 0) (σ.1 66 0).toInt.toNat) ∧ (¬ (0 ≤ c.toInt ∧ c.toInt ≤ 2) → r1.toInt = -1))) (F2 : ((0 ≤ c.toInt ∧ c.toInt ≤ 2 → (τ2.1 71 17).toInt = 0) ∧ (¬ (0 ≤ c.toInt ∧ c.toInt ≤ 2) → τ2.1 71 17 = τ1.1 71 17)) ∧ ((0 ≤ c.toInt ∧ c.toInt ≤ 2 → r2.toInt = rdA (Au (τ1.1 71 0).toInt (τ1.1 86) (τ1.1 71 17).toInt.toNat 0 [] 0) (τ1.1 71 17).toInt.toNat) ∧ (¬ (0 ≤ c.toInt ∧ c.toInt ≤ 2) → r2.toInt = -1))) : RlA τ2.1 ∧ r1.toInt = r2.toInt := by
  have hP : RlP τ2.1 := (h.2.keep hF1 (by decide) (by decide) (by decide)).keep hF2 (by decide) (by decide) (by decide)
  have hT : (σ.1 66 0).toInt = (σ.1 71 17).toInt := h.1.1
  have hB := h.1.2
  have x67 : τ2.1 67 = τ1.1 67 := g2 67 (by omega)
  have y86_ : τ1.1 86 = σ.1 86 := g1 86 (by omega)
  have y71_ : τ1.1 71 = σ.1 71 := g1 71 (by omega)
  have e1 : (τ2.1 66 0).toInt = (τ1.1 66 0).toInt := by rw [g2 66 (by omega)]
  have e2 : (τ1.1 71 17).toInt = (σ.1 71 17).toInt := by rw [g1 71 (by omega)]
  obtain ⟨F1, G1, G2⟩ := F1
  obtain ⟨F2, K1, K2⟩ := F2
  have hR : r1.toInt = r2.toInt := by
    by_cases q : 0 ≤ c.toInt ∧ c.toInt ≤ 2
    · rw [G1 q, K1 q, y71_, y86_, ← hT, ← h.2.1, Au_congr (t := σ.1 67) (t' := σ.1 86) (fun j hj => hB j (by omega))]
    · rw [G2 q, K2 q]
  refine ⟨⟨?_, hP⟩, hR⟩
  rcases F1 with ⟨a1, a2⟩ | ⟨a1, a2, a3⟩
  · have := F2.1 a1
    exact ⟨by omega, fun j hj => by omega⟩
  · have b := F2.2 a1
    rw [a3] at e1
    refine ⟨by rw [b]; omega, fun j hj => ?_⟩
    rw [x67, hF1.a 67 (by decide) (by decide), hF2.a 86 (by decide) (by decide), y86_]
    exact hB j (by omega)
theorem lr_processes {σ τ1 τ2 : Sg} (h : RlA σ.1) (g1 : ∀ i, 71 ≤ i → τ1.1 i = σ.1 i) (g2 : ∀ i, i < 71 → τ2.1 i = τ1.1 i) {n r1 r2 : Int32} (hF1 : Fr [2, 3] [(1, 0), (1, 1), (1, 2), (31, 0), (32, 0), (33, 0), (61, 1), (37, 3), (38, 3), (39, 3)] σ τ1) (hF2 : Fr [72, 73, 84] [(71, 0), (71, 8), (71, 10), (71, 39)] τ1 τ2) (F1 : (((1 ≤ n.toInt ∧ n.toInt ≤ 4) ∧ r1 = σ.1 1 0 ∧ τ1.1 1 0 = n ∧ ∀ j, (τ1.1 2 j).toInt = 0) ∨ (¬ (1 ≤ n.toInt ∧ n.toInt ≤ 4) ∧ r1.toInt = -2 ∧ τ1.1 1 0 = σ.1 1 0 ∧ τ1.1 2 = σ.1 2))) (F2 : (((1 ≤ n.toInt ∧ n.toInt ≤ 4) ∧ r2 = τ1.1 71 0 ∧ τ2.1 71 0 = n ∧ ∀ j : Nat, (j : Int) < 4 → (τ2.1 72 j).toInt = 0) ∨ (¬ (1 ≤ n.toInt ∧ n.toInt ≤ 4) ∧ r2.toInt = -2 ∧ τ2.1 71 0 = τ1.1 71 0 ∧ τ2.1 72 = τ1.1 72))) : RlA τ2.1 ∧ r1 = r2 ∨ (RlA τ2.1 ∧ r1.toInt = r2.toInt) := by
  have hT : RlT τ2.1 := (h.1.keep hF1 (by decide) (by decide)).keep hF2 (by decide) (by decide)
  obtain ⟨p1, p2, p3, p4⟩ := h.2
  have x0 : τ2.1 0 = τ1.1 0 := g2 0 (by omega)
  have x1 : τ2.1 1 = τ1.1 1 := g2 1 (by omega)
  have x2 : τ2.1 2 = τ1.1 2 := g2 2 (by omega)
  have x14 : τ2.1 14 = τ1.1 14 := g2 14 (by omega)
  have x15 : τ2.1 15 = τ1.1 15 := g2 15 (by omega)
  have y71_ : τ1.1 71 = σ.1 71 := g1 71 (by omega)
  have y72_ : τ1.1 72 = σ.1 72 := g1 72 (by omega)
  have y89_ : τ1.1 89 = σ.1 89 := g1 89 (by omega)
  have i1 : τ2.1 0 10 = σ.1 0 10 := by rw [x0]; exact hF1.f 0 10 (by decide) (by decide)
  have i2 : τ2.1 71 21 = σ.1 71 21 := (hF2.f 71 21 (by decide) (by decide)).trans (by rw [y71_])
  have i3 : τ2.1 71 22 = σ.1 71 22 := (hF2.f 71 22 (by decide) (by decide)).trans (by rw [y71_])
  have i4 : τ2.1 14 0 = σ.1 14 0 := by rw [x14]; exact hF1.f 14 0 (by decide) (by decide)
  have i5 : τ2.1 15 = σ.1 15 := by rw [x15]; exact hF1.a 15 (by decide) (by decide)
  have i6 : τ2.1 89 = σ.1 89 := (hF2.a 89 (by decide) (by decide)).trans y89_
  rcases F1 with ⟨a1, a2, a3, a4⟩ | ⟨a1, a2, a3, a4⟩ <;> rcases F2 with ⟨b1, b2, b3, b4⟩ | ⟨b1, b2, b3, b4⟩
  · refine Or.inl ⟨⟨hT, by rw [x1, a3, b3], fun j hj => ?_, by rw [i1, i2]; exact p3, by rw [i1, i4, i3, i5, i6]; exact p4⟩, by rw [a2, b2, p1, y71_]⟩
    rw [x2]
    exact Int32.toInt_inj.mp (by rw [a4 j, b4 j (by omega)])
  · exact absurd a1 b1
  · exact absurd b1 a1
  · exact Or.inr ⟨⟨hT, by rw [x1, a3, b3, y71_, p1], fun j hj => by rw [x2, a4, b4, y72_]; exact p2 j hj, by rw [i1, i2]; exact p3, by rw [i1, i4, i3, i5, i6]; exact p4⟩, by omega⟩
theorem lr_start {σ τ1 τ2 : Sg} (h : RlA σ.1) (g1 : ∀ i, 71 ≤ i → τ1.1 i = σ.1 i) (g2 : ∀ i, i < 71 → τ2.1 i = τ1.1 i) {p v r1 r2 : Int32} (hpr : (σ.1 1 0).toInt ≤ 4) (hF1 : Fr [2] [(37, 3), (38, 3), (39, 3)] σ τ1) (hF2 : Fr [72] [] τ1 τ2) (F1 : ((¬ (0 ≤ p.toInt ∧ p.toInt < (σ.1 1 0).toInt) ∧ r1.toInt = -1 ∧ τ1.1 2 = σ.1 2) ∨ ((0 ≤ p.toInt ∧ p.toInt < (σ.1 1 0).toInt) ∧ ¬ (-99 ≤ v.toInt ∧ v.toInt ≤ 99) ∧ r1.toInt = -2 ∧ τ1.1 2 = σ.1 2) ∨ ((0 ≤ p.toInt ∧ p.toInt < (σ.1 1 0).toInt) ∧ (-99 ≤ v.toInt ∧ v.toInt ≤ 99) ∧ r1 = σ.1 2 p.toNatClampNeg + 100 ∧ τ1.1 2 = upd (σ.1 2) p.toNatClampNeg v))) (F2 : ((¬ (0 ≤ p.toInt ∧ p.toInt < (τ1.1 71 0).toInt) ∧ r2.toInt = -1 ∧ τ2.1 72 = τ1.1 72) ∨ ((0 ≤ p.toInt ∧ p.toInt < (τ1.1 71 0).toInt) ∧ ¬ (-99 ≤ v.toInt ∧ v.toInt ≤ 99) ∧ r2.toInt = -2 ∧ τ2.1 72 = τ1.1 72) ∨ ((0 ≤ p.toInt ∧ p.toInt < (τ1.1 71 0).toInt) ∧ (-99 ≤ v.toInt ∧ v.toInt ≤ 99) ∧ r2 = τ1.1 72 p.toNatClampNeg + 100 ∧ τ2.1 72 = upd (τ1.1 72) p.toNatClampNeg v))) : RlA τ2.1 ∧ r1.toInt = r2.toInt := by
  have hT : RlT τ2.1 := (h.1.keep hF1 (by decide) (by decide)).keep hF2 (by decide) (by decide)
  obtain ⟨p1, p2, p3, p4⟩ := h.2
  have x0 : τ2.1 0 = τ1.1 0 := g2 0 (by omega)
  have x1 : τ2.1 1 = τ1.1 1 := g2 1 (by omega)
  have x2 : τ2.1 2 = τ1.1 2 := g2 2 (by omega)
  have x14 : τ2.1 14 = τ1.1 14 := g2 14 (by omega)
  have x15 : τ2.1 15 = τ1.1 15 := g2 15 (by omega)
  have y71_ : τ1.1 71 = σ.1 71 := g1 71 (by omega)
  have y72_ : τ1.1 72 = σ.1 72 := g1 72 (by omega)
  have y89_ : τ1.1 89 = σ.1 89 := g1 89 (by omega)
  have i0 : τ2.1 1 0 = τ2.1 71 0 := by rw [x1, hF1.f 1 0 (by decide) (by decide), hF2.f 71 0 (by decide) (by decide), y71_]; exact p1
  have i1 : τ2.1 0 10 = σ.1 0 10 := by rw [x0]; exact hF1.f 0 10 (by decide) (by decide)
  have i2 : τ2.1 71 21 = σ.1 71 21 := (hF2.f 71 21 (by decide) (by decide)).trans (by rw [y71_])
  have i3 : τ2.1 71 22 = σ.1 71 22 := (hF2.f 71 22 (by decide) (by decide)).trans (by rw [y71_])
  have i4 : τ2.1 14 0 = σ.1 14 0 := by rw [x14]; exact hF1.f 14 0 (by decide) (by decide)
  have i5 : τ2.1 15 = σ.1 15 := by rw [x15]; exact hF1.a 15 (by decide) (by decide)
  have i6 : τ2.1 89 = σ.1 89 := (hF2.a 89 (by decide) (by decide)).trans y89_
  have q0 : (τ1.1 71 0).toInt = (σ.1 1 0).toInt := by rw [y71_, p1]
  have hi : ((τ2.1 0 10).toInt = 0 ↔ (τ2.1 71 21).toInt = 0) ∧ (¬ (τ2.1 0 10).toInt = 0 → τ2.1 14 0 = τ2.1 71 22 ∧ ∀ j : Nat, j < 4 → τ2.1 15 j = τ2.1 89 j) := by rw [i1, i2, i4, i3, i5, i6]; exact ⟨p3, p4⟩
  have same : τ1.1 2 = σ.1 2 → τ2.1 72 = τ1.1 72 → ∀ j : Nat, j < 4 → τ2.1 2 j = τ2.1 72 j := fun a b j hj => by rw [x2, a, b, y72_]; exact p2 j hj
  rcases F1 with ⟨a1, a2, a3⟩ | ⟨a1, a2, a3, a4⟩ | ⟨a1, a2, a3, a4⟩ <;> rcases F2 with ⟨b1, b2, b3⟩ | ⟨b1, b2, b3, b4⟩ | ⟨b1, b2, b3, b4⟩ <;> try omega
  · exact ⟨⟨hT, i0, same a3 b3, hi⟩, by omega⟩
  · exact ⟨⟨hT, i0, same a4 b4, hi⟩, by omega⟩
  · have hp : p.toNatClampNeg < 4 ∨ 4 ≤ p.toNatClampNeg := by omega
    refine ⟨⟨hT, i0, fun j hj => ?_, hi⟩, ?_⟩
    · rw [x2, a4, b4, y72_]
      by_cases e : j = p.toNatClampNeg
      · rw [e, pk_us, pk_us]
      · rw [pk_un e, pk_un e]; exact p2 j hj
    · rw [a3, b3, y72_, p2 _ (by have := hpr; unfold Int32.toNatClampNeg; omega)]
theorem lr_image {σ τ1 τ2 : Sg} (h : RlA σ.1) (g1 : ∀ i, 71 ≤ i → τ1.1 i = σ.1 i) (g2 : ∀ i, i < 71 → τ2.1 i = τ1.1 i)  (hF1 : Fr [15, 16, 17, 18, 19, 20, 21, 22, 23, 24, 25, 26, 46, 47, 48] [(14, 0), (14, 1), (14, 2), (34, 0), (34, 1), (35, 0), (35, 1), (36, 0), (36, 1), (0, 10)] σ τ1) (hF2 : Fr [89, 90, 91, 92, 93, 94, 95, 96, 97, 98, 99, 100, 101, 102] [(71, 21), (71, 22), (71, 30), (71, 32)] τ1 τ2) (F1 : τ1.1 14 0 = σ.1 1 0 ∧ τ1.1 15 = σ.1 2 ∧ (τ1.1 0 10).toInt = 1) (F2 : τ2.1 71 22 = τ1.1 71 0 ∧ τ2.1 89 = τ1.1 72 ∧ (τ2.1 71 21).toInt = 1) : RlA τ2.1 := by
  have hT : RlT τ2.1 := (h.1.keep hF1 (by decide) (by decide)).keep hF2 (by decide) (by decide)
  obtain ⟨p1, p2, p3, p4⟩ := h.2
  have x0 : τ2.1 0 = τ1.1 0 := g2 0 (by omega)
  have x1 : τ2.1 1 = τ1.1 1 := g2 1 (by omega)
  have x2 : τ2.1 2 = τ1.1 2 := g2 2 (by omega)
  have x14 : τ2.1 14 = τ1.1 14 := g2 14 (by omega)
  have x15 : τ2.1 15 = τ1.1 15 := g2 15 (by omega)
  have y71_ : τ1.1 71 = σ.1 71 := g1 71 (by omega)
  have y72_ : τ1.1 72 = σ.1 72 := g1 72 (by omega)
  have y89_ : τ1.1 89 = σ.1 89 := g1 89 (by omega)
  obtain ⟨a1, a2, a3⟩ := F1
  obtain ⟨b1, b2, b3⟩ := F2
  have i0 : τ2.1 1 0 = τ2.1 71 0 := by rw [x1, hF1.f 1 0 (by decide) (by decide), hF2.f 71 0 (by decide) (by decide), y71_]; exact p1
  have i1 : ∀ j : Nat, j < 4 → τ2.1 2 j = τ2.1 72 j := fun j hj => by rw [x2, hF1.a 2 (by decide) (by decide), hF2.a 72 (by decide) (by decide), y72_]; exact p2 j hj
  refine ⟨hT, i0, i1, by rw [x0]; omega, fun _ => ⟨by rw [x14, a1, b1, y71_]; exact p1, fun j hj => by rw [x15, a2, b2, y72_]; exact p2 j hj⟩⟩
theorem lr_undo {σ τ1 τ2 : Sg} (h : RlA σ.1) (g1 : ∀ i, 71 ≤ i → τ1.1 i = σ.1 i) (g2 : ∀ i, i < 71 → τ2.1 i = τ1.1 i)  (hF1 : Fr [2, 3, 4, 5, 6, 7, 8, 9, 10, 11, 12, 13, 43, 44, 45] [(1, 0), (1, 1), (1, 2), (31, 0), (31, 1), (32, 0), (32, 1), (33, 0), (33, 1), (61, 1), (37, 3), (38, 3), (39, 3)] σ τ1) (hF2 : Fr [72, 73, 74, 75, 76, 77, 78, 79, 80, 81, 82, 83, 84, 85] [(71, 0), (71, 8), (71, 10), (71, 39)] τ1 τ2) (F1 : (((σ.1 0 10).toInt = 0 ∧ τ1.1 1 0 = σ.1 1 0 ∧ τ1.1 2 = σ.1 2) ∨ (¬ (σ.1 0 10).toInt = 0 ∧ τ1.1 1 0 = σ.1 14 0 ∧ τ1.1 2 = σ.1 15))) (F2 : (((τ1.1 71 21).toInt = 0 ∧ τ2.1 71 0 = τ1.1 71 0 ∧ τ2.1 72 = τ1.1 72) ∨ (¬ (τ1.1 71 21).toInt = 0 ∧ τ2.1 71 0 = τ1.1 71 22 ∧ τ2.1 72 = τ1.1 89))) : RlA τ2.1 := by
  have hT : RlT τ2.1 := (h.1.keep hF1 (by decide) (by decide)).keep hF2 (by decide) (by decide)
  obtain ⟨p1, p2, p3, p4⟩ := h.2
  have x0 : τ2.1 0 = τ1.1 0 := g2 0 (by omega)
  have x1 : τ2.1 1 = τ1.1 1 := g2 1 (by omega)
  have x2 : τ2.1 2 = τ1.1 2 := g2 2 (by omega)
  have x14 : τ2.1 14 = τ1.1 14 := g2 14 (by omega)
  have x15 : τ2.1 15 = τ1.1 15 := g2 15 (by omega)
  have y71_ : τ1.1 71 = σ.1 71 := g1 71 (by omega)
  have y72_ : τ1.1 72 = σ.1 72 := g1 72 (by omega)
  have y89_ : τ1.1 89 = σ.1 89 := g1 89 (by omega)
  have i1 : τ2.1 0 10 = σ.1 0 10 := by rw [x0]; exact hF1.f 0 10 (by decide) (by decide)
  have i2 : τ2.1 71 21 = σ.1 71 21 := (hF2.f 71 21 (by decide) (by decide)).trans (by rw [y71_])
  have i3 : τ2.1 71 22 = σ.1 71 22 := (hF2.f 71 22 (by decide) (by decide)).trans (by rw [y71_])
  have i4 : τ2.1 14 0 = σ.1 14 0 := by rw [x14]; exact hF1.f 14 0 (by decide) (by decide)
  have i5 : τ2.1 15 = σ.1 15 := by rw [x15]; exact hF1.a 15 (by decide) (by decide)
  have i6 : τ2.1 89 = σ.1 89 := (hF2.a 89 (by decide) (by decide)).trans y89_
  have hi : ((τ2.1 0 10).toInt = 0 ↔ (τ2.1 71 21).toInt = 0) ∧ (¬ (τ2.1 0 10).toInt = 0 → τ2.1 14 0 = τ2.1 71 22 ∧ ∀ j : Nat, j < 4 → τ2.1 15 j = τ2.1 89 j) := by rw [i1, i2, i4, i3, i5, i6]; exact ⟨p3, p4⟩
  rw [y71_] at F2
  rcases F1 with ⟨a1, a2, a3⟩ | ⟨a1, a2, a3⟩ <;> rcases F2 with ⟨b1, b2, b3⟩ | ⟨b1, b2, b3⟩
  · exact ⟨hT, by rw [x1, a2, b2]; exact p1, fun j hj => by rw [x2, a3, b3, y72_]; exact p2 j hj, hi⟩
  · exact absurd (p3.mp a1) b1
  · exact absurd (p3.mpr b1) a1
  · obtain ⟨c1, c2⟩ := p4 a1
    exact ⟨hT, by rw [x1, a2, b2]; exact c1, fun j hj => by rw [x2, a3, b3, y89_]; exact c2 j hj, hi⟩
