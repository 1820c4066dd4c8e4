def Tc (V : Nat → Nat → Int32) : Prop := ((V 31 0).toInt = 0 ↔ (V 84 0).toInt = 0) ∧ ((V 32 0).toInt = 0 ↔ (V 84 1).toInt = 0) ∧ ((V 33 0).toInt = 0 ↔ (V 84 2).toInt = 0)
def Ti (V : Nat → Nat → Int32) : Prop := ¬ (V 0 10).toInt = 0 → ((V 34 0).toInt = 0 ↔ (V 101 0).toInt = 0) ∧ ((V 35 0).toInt = 0 ↔ (V 101 1).toInt = 0) ∧ ((V 36 0).toInt = 0 ↔ (V 101 2).toInt = 0)
def RlC (V : Nat → Nat → Int32) : Prop := Tc V ∧ Ti V
theorem Tc.keep {cs : List Nat} {fs : List (Nat × Nat)} {σ τ : Sg} (h : Tc σ.1) (hF : Fr cs fs σ τ) (hc : ∀ x ∈ [31, 32, 33, 84], x ∉ cs) (hf : (∀ q ∈ [(31, 0), (32, 0), (33, 0)], q ∉ fs) ∧ ∀ q ∈ fs, q.1 ≠ 84) : Tc τ.1 := by
  unfold Tc
  rw [hF.f 31 0 (hc 31 (by decide)) (hf.1 _ (by decide)), hF.f 32 0 (hc 32 (by decide)) (hf.1 _ (by decide)), hF.f 33 0 (hc 33 (by decide)) (hf.1 _ (by decide)), hF.a 84 (hc 84 (by decide)) hf.2]
  exact h
theorem Ti.keep {cs : List Nat} {fs : List (Nat × Nat)} {σ τ : Sg} (h : Ti σ.1) (hF : Fr cs fs σ τ) (hc : ∀ x ∈ [0, 34, 35, 36, 101], x ∉ cs) (hf : (∀ q ∈ [(0, 10), (34, 0), (35, 0), (36, 0)], q ∉ fs) ∧ ∀ q ∈ fs, q.1 ≠ 101) : Ti τ.1 := by
  unfold Ti
  rw [hF.f 0 10 (hc 0 (by decide)) (hf.1 _ (by decide)), hF.f 34 0 (hc 34 (by decide)) (hf.1 _ (by decide)), hF.f 35 0 (hc 35 (by decide)) (hf.1 _ (by decide)), hF.f 36 0 (hc 36 (by decide)) (hf.1 _ (by decide)), hF.a 101 (hc 101 (by decide)) hf.2]
  exact h
theorem RlC.keep {cs : List Nat} {fs : List (Nat × Nat)} {σ τ : Sg} (h : RlC σ.1) (hF : Fr cs fs σ τ) (h1 : ∀ x ∈ [31, 32, 33, 84], x ∉ cs) (h2 : (∀ q ∈ [(31, 0), (32, 0), (33, 0)], q ∉ fs) ∧ ∀ q ∈ fs, q.1 ≠ 84) (h3 : ∀ x ∈ [0, 34, 35, 36, 101], x ∉ cs) (h4 : (∀ q ∈ [(0, 10), (34, 0), (35, 0), (36, 0)], q ∉ fs) ∧ ∀ q ∈ fs, q.1 ≠ 101) : RlC τ.1 := ⟨h.1.keep hF h1 h2, h.2.keep hF h3 h4⟩
theorem lc_forget {σ τ1 τ2 : Sg} (h : RlC σ.1) (g1 : ∀ i, 71 ≤ i → τ1.1 i = σ.1 i) (g2 : ∀ i, i < 71 → τ2.1 i = τ1.1 i) {c r1 r2 : Int32} (hF1 : Fr [] [(31, 0), (32, 0), (33, 0)] σ τ1) (hF2 : Fr [84] [] τ1 τ2) (F1 : FaX σ.1 c r1 ∧ FdX σ.1 τ1.1 c r1) (F2 : FaM τ1.1 c r2 ∧ FdM τ1.1 τ2.1 c r2) : RlC τ2.1 ∧ r1.toInt = r2.toInt := by
  have hT : Ti τ2.1 := (h.2.keep hF1 (by decide) (by decide)).keep hF2 (by decide) (by decide)
  obtain ⟨t0, t1, t2⟩ := h.1
  have x0 : τ2.1 0 = τ1.1 0 := g2 0 (by omega)
  have x31 : τ2.1 31 = τ1.1 31 := g2 31 (by omega)
  have x32 : τ2.1 32 = τ1.1 32 := g2 32 (by omega)
  have x33 : τ2.1 33 = τ1.1 33 := g2 33 (by omega)
  have x34 : τ2.1 34 = τ1.1 34 := g2 34 (by omega)
  have x35 : τ2.1 35 = τ1.1 35 := g2 35 (by omega)
  have x36 : τ2.1 36 = τ1.1 36 := g2 36 (by omega)
  have y71_ : τ1.1 71 = σ.1 71 := g1 71 (by omega)
  have y84_ : τ1.1 84 = σ.1 84 := g1 84 (by omega)
  have y101_ : τ1.1 101 = σ.1 101 := g1 101 (by omega)
  obtain ⟨⟨a0, a1, a2, a3⟩, ⟨⟨b0, c0⟩, ⟨b1, c1⟩, ⟨b2, c2⟩⟩⟩ := F1
  obtain ⟨⟨d0, d1⟩, ⟨e0, e1⟩⟩ := F2
  rw [y84_] at d1 e0 e1
  by_cases hr : 0 ≤ c.toInt ∧ c.toInt ≤ 2
  · have k := d1 hr
    obtain q | q | q : c.toInt = 0 ∨ c.toInt = 1 ∨ c.toInt = 2 := by omega
    · have hk : c.toNatClampNeg = 0 := by unfold Int32.toNatClampNeg; omega
      rw [hk] at k e0
      have a := a1 q
      have hrr : r1.toInt = r2.toInt := by clear e0; omega
      refine ⟨⟨?_, hT⟩, hrr⟩
      unfold Tc
      rw [x31, x32, x33, c1 (by omega), c2 (by omega)]
      by_cases w : r1.toInt = 1
      · obtain ⟨z, hz, e⟩ := e0 ⟨hr, by omega⟩
        rw [e, pk_un (by decide : (1 : Nat) ≠ 0), pk_un (by decide : (2 : Nat) ≠ 0), pk_us]
        have v := b0 ⟨q, w⟩
        exact ⟨by omega, t1, t2⟩
      · rw [e1 (by omega), c0 (by omega)]
        exact ⟨t0, t1, t2⟩
    · have hk : c.toNatClampNeg = 1 := by unfold Int32.toNatClampNeg; omega
      rw [hk] at k e0
      have a := a2 q
      have hrr : r1.toInt = r2.toInt := by clear e0; omega
      refine ⟨⟨?_, hT⟩, hrr⟩
      unfold Tc
      rw [x31, x32, x33, c0 (by omega), c2 (by omega)]
      by_cases w : r1.toInt = 1
      · obtain ⟨z, hz, e⟩ := e0 ⟨hr, by omega⟩
        rw [e, pk_un (by decide : (0 : Nat) ≠ 1), pk_un (by decide : (2 : Nat) ≠ 1), pk_us]
        have v := b1 ⟨q, w⟩
        exact ⟨t0, by omega, t2⟩
      · rw [e1 (by omega), c1 (by omega)]
        exact ⟨t0, t1, t2⟩
    · have hk : c.toNatClampNeg = 2 := by unfold Int32.toNatClampNeg; omega
      rw [hk] at k e0
      have a := a3 q
      have hrr : r1.toInt = r2.toInt := by clear e0; omega
      refine ⟨⟨?_, hT⟩, hrr⟩
      unfold Tc
      rw [x31, x32, x33, c0 (by omega), c1 (by omega)]
      by_cases w : r1.toInt = 1
      · obtain ⟨z, hz, e⟩ := e0 ⟨hr, by omega⟩
        rw [e, pk_un (by decide : (0 : Nat) ≠ 2), pk_un (by decide : (1 : Nat) ≠ 2), pk_us]
        have v := b2 ⟨q, w⟩
        exact ⟨t0, t1, by omega⟩
      · rw [e1 (by omega), c2 (by omega)]
        exact ⟨t0, t1, t2⟩
  · refine ⟨⟨?_, hT⟩, by rw [a0 hr, d0 hr]⟩
    unfold Tc
    rw [x31, x32, x33, c0 (by omega), c1 (by omega), c2 (by omega), e1 (fun q => hr q.1)]
    exact ⟨t0, t1, t2⟩
theorem lc_read {σ τ1 τ2 : Sg} (h : RlC σ.1) (g1 : ∀ i, 71 ≤ i → τ1.1 i = σ.1 i) (g2 : ∀ i, i < 71 → τ2.1 i = τ1.1 i) {c r1 r2 : Int32} (hr12 : r1.toInt = r2.toInt) (hF1 : Fr [69, 43, 44, 45] [(66, 0), (66, 1), (68, 2), (31, 0), (31, 1), (32, 0), (32, 1), (33, 0), (33, 1), (37, 3), (38, 3), (39, 3)] σ τ1) (hF2 : Fr [84, 85, 109] [(71, 17), (71, 49)] τ1 τ2) (F1 : RdX σ.1 τ1.1 c r1) (F2 : RdM τ1.1 τ2.1 c r2) : RlC τ2.1 := by
  have hT : Ti τ2.1 := (h.2.keep hF1 (by decide) (by decide)).keep hF2 (by decide) (by decide)
  obtain ⟨t0, t1, t2⟩ := h.1
  have x0 : τ2.1 0 = τ1.1 0 := g2 0 (by omega)
  have x31 : τ2.1 31 = τ1.1 31 := g2 31 (by omega)
  have x32 : τ2.1 32 = τ1.1 32 := g2 32 (by omega)
  have x33 : τ2.1 33 = τ1.1 33 := g2 33 (by omega)
  have x34 : τ2.1 34 = τ1.1 34 := g2 34 (by omega)
  have x35 : τ2.1 35 = τ1.1 35 := g2 35 (by omega)
  have x36 : τ2.1 36 = τ1.1 36 := g2 36 (by omega)
  have y71_ : τ1.1 71 = σ.1 71 := g1 71 (by omega)
  have y84_ : τ1.1 84 = σ.1 84 := g1 84 (by omega)
  have y101_ : τ1.1 101 = σ.1 101 := g1 101 (by omega)
  obtain ⟨⟨b0, c0⟩, ⟨b1, c1⟩, ⟨b2, c2⟩⟩ := F1
  obtain ⟨e0, e1⟩ := F2
  rw [y84_] at e0 e1
  refine ⟨?_, hT⟩
  unfold Tc
  rw [x31, x32, x33]
  by_cases hr : (0 ≤ c.toInt ∧ c.toInt ≤ 2) ∧ 0 ≤ r2.toInt
  · obtain ⟨p, e⟩ := e0 hr
    obtain q | q | q : c.toInt = 0 ∨ c.toInt = 1 ∨ c.toInt = 2 := by omega
    · have hk : c.toNatClampNeg = 0 := by unfold Int32.toNatClampNeg; omega
      rw [hk] at e
      have v := b0 ⟨q, by omega⟩
      rw [c1 (by omega), c2 (by omega), e, pk_un (by decide : (1 : Nat) ≠ 0), pk_un (by decide : (2 : Nat) ≠ 0), pk_us]
      exact ⟨by omega, t1, t2⟩
    · have hk : c.toNatClampNeg = 1 := by unfold Int32.toNatClampNeg; omega
      rw [hk] at e
      have v := b1 ⟨q, by omega⟩
      rw [c0 (by omega), c2 (by omega), e, pk_un (by decide : (0 : Nat) ≠ 1), pk_un (by decide : (2 : Nat) ≠ 1), pk_us]
      exact ⟨t0, by omega, t2⟩
    · have hk : c.toNatClampNeg = 2 := by unfold Int32.toNatClampNeg; omega
      rw [hk] at e
      have v := b2 ⟨q, by omega⟩
      rw [c0 (by omega), c1 (by omega), e, pk_un (by decide : (0 : Nat) ≠ 2), pk_un (by decide : (1 : Nat) ≠ 2), pk_us]
      exact ⟨t0, t1, by omega⟩
  · rw [c0 (by omega), c1 (by omega), c2 (by omega), e1 hr]
    exact ⟨t0, t1, t2⟩
theorem lc_processes {σ τ1 τ2 : Sg} (h : RlC σ.1) (g1 : ∀ i, 71 ≤ i → τ1.1 i = σ.1 i) (g2 : ∀ i, i < 71 → τ2.1 i = τ1.1 i) {n : Int32} (hF1 : Fr [2, 3] [(1, 0), (1, 1), (1, 2), (31, 0), (32, 0), (33, 0), (61, 1), (37, 3), (38, 3), (39, 3)] σ τ1) (hF2 : Fr [72, 73, 84] [(71, 0), (71, 8), (71, 10), (71, 39)] τ1 τ2) (F1 : (((1 ≤ n.toInt ∧ n.toInt ≤ 4) → (τ1.1 31 0).toInt = 0 ∧ (τ1.1 32 0).toInt = 0 ∧ (τ1.1 33 0).toInt = 0) ∧ (¬ (1 ≤ n.toInt ∧ n.toInt ≤ 4) → τ1.1 31 0 = σ.1 31 0 ∧ τ1.1 32 0 = σ.1 32 0 ∧ τ1.1 33 0 = σ.1 33 0))) (F2 : (((1 ≤ n.toInt ∧ n.toInt ≤ 4) → ∀ j : Nat, (j : Int) < 3 → (τ2.1 84 j).toInt = 0) ∧ (¬ (1 ≤ n.toInt ∧ n.toInt ≤ 4) → τ2.1 84 = τ1.1 84))) : RlC τ2.1 := by
  have hT : Ti τ2.1 := (h.2.keep hF1 (by decide) (by decide)).keep hF2 (by decide) (by decide)
  obtain ⟨t0, t1, t2⟩ := h.1
  have x0 : τ2.1 0 = τ1.1 0 := g2 0 (by omega)
  have x31 : τ2.1 31 = τ1.1 31 := g2 31 (by omega)
  have x32 : τ2.1 32 = τ1.1 32 := g2 32 (by omega)
  have x33 : τ2.1 33 = τ1.1 33 := g2 33 (by omega)
  have x34 : τ2.1 34 = τ1.1 34 := g2 34 (by omega)
  have x35 : τ2.1 35 = τ1.1 35 := g2 35 (by omega)
  have x36 : τ2.1 36 = τ1.1 36 := g2 36 (by omega)
  have y71_ : τ1.1 71 = σ.1 71 := g1 71 (by omega)
  have y84_ : τ1.1 84 = σ.1 84 := g1 84 (by omega)
  have y101_ : τ1.1 101 = σ.1 101 := g1 101 (by omega)
  refine ⟨?_, hT⟩
  unfold Tc
  rw [x31, x32, x33]
  by_cases q : 1 ≤ n.toInt ∧ n.toInt ≤ 4
  · obtain ⟨a0, a1, a2⟩ := F1.1 q
    have b0 := F2.1 q 0 (by omega)
    have b1 := F2.1 q 1 (by omega)
    have b2 := F2.1 q 2 (by omega)
    exact ⟨by omega, by omega, by omega⟩
  · obtain ⟨a0, a1, a2⟩ := F1.2 q
    rw [a0, a1, a2, F2.2 q, y84_]
    exact ⟨t0, t1, t2⟩
theorem lc_image {σ τ1 τ2 : Sg} (h : RlC σ.1) (g1 : ∀ i, 71 ≤ i → τ1.1 i = σ.1 i) (g2 : ∀ i, i < 71 → τ2.1 i = τ1.1 i)  (hF1 : Fr [15, 16, 17, 18, 19, 20, 21, 22, 23, 24, 25, 26, 46, 47, 48] [(14, 0), (14, 1), (14, 2), (34, 0), (34, 1), (35, 0), (35, 1), (36, 0), (36, 1), (0, 10)] σ τ1) (hF2 : Fr [89, 90, 91, 92, 93, 94, 95, 96, 97, 98, 99, 100, 101, 102] [(71, 21), (71, 22), (71, 30), (71, 32)] τ1 τ2) (F1 : τ1.1 34 0 = σ.1 31 0 ∧ τ1.1 35 0 = σ.1 32 0 ∧ τ1.1 36 0 = σ.1 33 0) (F2 : τ2.1 101 = τ1.1 84) : RlC τ2.1 := by
  obtain ⟨t0, t1, t2⟩ := h.1
  have x0 : τ2.1 0 = τ1.1 0 := g2 0 (by omega)
  have x31 : τ2.1 31 = τ1.1 31 := g2 31 (by omega)
  have x32 : τ2.1 32 = τ1.1 32 := g2 32 (by omega)
  have x33 : τ2.1 33 = τ1.1 33 := g2 33 (by omega)
  have x34 : τ2.1 34 = τ1.1 34 := g2 34 (by omega)
  have x35 : τ2.1 35 = τ1.1 35 := g2 35 (by omega)
  have x36 : τ2.1 36 = τ1.1 36 := g2 36 (by omega)
  have y71_ : τ1.1 71 = σ.1 71 := g1 71 (by omega)
  have y84_ : τ1.1 84 = σ.1 84 := g1 84 (by omega)
  have y101_ : τ1.1 101 = σ.1 101 := g1 101 (by omega)
  have hC : Tc τ2.1 := (h.1.keep hF1 (by decide) (by decide)).keep hF2 (by decide) (by decide)
  refine ⟨hC, fun _ => ?_⟩
  rw [x34, x35, x36, F1.1, F1.2.1, F1.2.2, F2, y84_]
  exact ⟨t0, t1, t2⟩
theorem lc_undo {σ τ1 τ2 : Sg} (h : RlC σ.1) (g1 : ∀ i, 71 ≤ i → τ1.1 i = σ.1 i) (g2 : ∀ i, i < 71 → τ2.1 i = τ1.1 i) (hi : (σ.1 0 10).toInt = 0 ↔ (σ.1 71 21).toInt = 0) (hF1 : Fr [2, 3, 4, 5, 6, 7, 8, 9, 10, 11, 12, 13, 43, 44, 45] [(1, 0), (1, 1), (1, 2), (31, 0), (31, 1), (32, 0), (32, 1), (33, 0), (33, 1), (61, 1), (37, 3), (38, 3), (39, 3)] σ τ1) (hF2 : Fr [72, 73, 74, 75, 76, 77, 78, 79, 80, 81, 82, 83, 84, 85] [(71, 0), (71, 8), (71, 10), (71, 39)] τ1 τ2) (F1 : (((σ.1 0 10).toInt = 0 → τ1.1 31 0 = σ.1 31 0 ∧ τ1.1 32 0 = σ.1 32 0 ∧ τ1.1 33 0 = σ.1 33 0) ∧ (¬ (σ.1 0 10).toInt = 0 → τ1.1 31 0 = σ.1 34 0 ∧ τ1.1 32 0 = σ.1 35 0 ∧ τ1.1 33 0 = σ.1 36 0))) (F2 : ((τ1.1 71 21).toInt = 0 → τ2.1 84 = τ1.1 84) ∧ (¬ (τ1.1 71 21).toInt = 0 → τ2.1 84 = τ1.1 101)) : RlC τ2.1 := by
  have hT : Ti τ2.1 := (h.2.keep hF1 (by decide) (by decide)).keep hF2 (by decide) (by decide)
  obtain ⟨t0, t1, t2⟩ := h.1
  have x0 : τ2.1 0 = τ1.1 0 := g2 0 (by omega)
  have x31 : τ2.1 31 = τ1.1 31 := g2 31 (by omega)
  have x32 : τ2.1 32 = τ1.1 32 := g2 32 (by omega)
  have x33 : τ2.1 33 = τ1.1 33 := g2 33 (by omega)
  have x34 : τ2.1 34 = τ1.1 34 := g2 34 (by omega)
  have x35 : τ2.1 35 = τ1.1 35 := g2 35 (by omega)
  have x36 : τ2.1 36 = τ1.1 36 := g2 36 (by omega)
  have y71_ : τ1.1 71 = σ.1 71 := g1 71 (by omega)
  have y84_ : τ1.1 84 = σ.1 84 := g1 84 (by omega)
  have y101_ : τ1.1 101 = σ.1 101 := g1 101 (by omega)
  refine ⟨?_, hT⟩
  unfold Tc
  rw [x31, x32, x33]
  rw [y71_] at F2
  by_cases q : (σ.1 0 10).toInt = 0
  · obtain ⟨a0, a1, a2⟩ := F1.1 q
    rw [a0, a1, a2, F2.1 (hi.mp q), y84_]
    exact ⟨t0, t1, t2⟩
  · obtain ⟨a0, a1, a2⟩ := F1.2 q
    rw [a0, a1, a2, F2.2 (fun w => q (hi.mpr w)), y101_]
    exact h.2 q
