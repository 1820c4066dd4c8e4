/-! the class's state -/
def PG (f : Nat → Int32) : Prop := ∀ j, PV (f j)
def CN (V : Nat → Nat → Int32) (o p : Nat) : Prop := ((V o 0).toInt = 0 ∨ (V o 0).toInt = 1) ∧ (0 ≤ (V o 1).toInt ∧ (V o 1).toInt ≤ 60) ∧ PG (V p)
def IX (V : Nat → Nat → Int32) : Prop :=
  (RC (V 1 0) (V 1 1) (V 1 2) (V 3) (V 4) (V 5) (V 7) (V 10) (V 11) (V 12)) ∧
  (RC (V 14 0) (V 14 1) (V 14 2) (V 16) (V 17) (V 18) (V 20) (V 23) (V 24) (V 25)) ∧
  (CN V 31 43) ∧
  (CN V 32 44) ∧
  (CN V 33 45) ∧
  (CN V 34 46) ∧
  (CN V 35 47) ∧
  (CN V 36 48) ∧
  (((V 40 0).toInt ≤ 20)) ∧
  (((V 41 0).toInt ≤ 20)) ∧
  (((V 42 0).toInt ≤ 20)) ∧
  ((0 ≤ (V 61 2).toInt ∧ (V 61 2).toInt ≤ 1296) ∧ (∀ j, GR (V 62 j)) ∧ (∀ j, -1 ≤ (V 63 j).toInt ∧ (V 63 j).toInt ≤ 1295)) ∧
  ((0 ≤ (V 66 0).toInt ∧ (V 66 0).toInt ≤ 60) ∧ (0 ≤ (V 66 1).toInt ∧ (V 66 1).toInt ≤ 60)) ∧
  ((0 ≤ (V 68 2).toInt ∧ (V 68 2).toInt ≤ 60) ∧ PG (V 69))
theorem IX.RU {V : Nat → Nat → Int32} (h : IX V) : RC (V 1 0) (V 1 1) (V 1 2) (V 3) (V 4) (V 5) (V 7) (V 10) (V 11) (V 12) := h.1
theorem IX.RI {V : Nat → Nat → Int32} (h : IX V) : RC (V 14 0) (V 14 1) (V 14 2) (V 16) (V 17) (V 18) (V 20) (V 23) (V 24) (V 25) := h.2.1
theorem IX.C0 {V : Nat → Nat → Int32} (h : IX V) : CN V 31 43 := h.2.2.1
theorem IX.C1 {V : Nat → Nat → Int32} (h : IX V) : CN V 32 44 := h.2.2.2.1
theorem IX.C2 {V : Nat → Nat → Int32} (h : IX V) : CN V 33 45 := h.2.2.2.2.1
theorem IX.I0 {V : Nat → Nat → Int32} (h : IX V) : CN V 34 46 := h.2.2.2.2.2.1
theorem IX.I1 {V : Nat → Nat → Int32} (h : IX V) : CN V 35 47 := h.2.2.2.2.2.2.1
theorem IX.I2 {V : Nat → Nat → Int32} (h : IX V) : CN V 36 48 := h.2.2.2.2.2.2.2.1
theorem IX.L0 {V : Nat → Nat → Int32} (h : IX V) : ((V 40 0).toInt ≤ 20) := h.2.2.2.2.2.2.2.2.1
theorem IX.L1 {V : Nat → Nat → Int32} (h : IX V) : ((V 41 0).toInt ≤ 20) := h.2.2.2.2.2.2.2.2.2.1
theorem IX.L2 {V : Nat → Nat → Int32} (h : IX V) : ((V 42 0).toInt ≤ 20) := h.2.2.2.2.2.2.2.2.2.2.1
theorem IX.LT {V : Nat → Nat → Int32} (h : IX V) : (0 ≤ (V 61 2).toInt ∧ (V 61 2).toInt ≤ 1296) ∧ (∀ j, GR (V 62 j)) ∧ (∀ j, -1 ≤ (V 63 j).toInt ∧ (V 63 j).toInt ≤ 1295) := h.2.2.2.2.2.2.2.2.2.2.2.1
theorem IX.TP {V : Nat → Nat → Int32} (h : IX V) : (0 ≤ (V 66 0).toInt ∧ (V 66 0).toInt ≤ 60) ∧ (0 ≤ (V 66 1).toInt ∧ (V 66 1).toInt ≤ 60) := h.2.2.2.2.2.2.2.2.2.2.2.2.1
theorem IX.CR {V : Nat → Nat → Int32} (h : IX V) : (0 ≤ (V 68 2).toInt ∧ (V 68 2).toInt ≤ 60) ∧ PG (V 69) := h.2.2.2.2.2.2.2.2.2.2.2.2.2
theorem IX.pr {V : Nat → Nat → Int32} (h : IX V) : 1 ≤ (V 1 0).toInt ∧ (V 1 0).toInt ≤ 4 := h.RU.1
theorem IX.tot {V : Nat → Nat → Int32} (h : IX V) : 0 ≤ (V 1 1).toInt ∧ (V 1 1).toInt ≤ 20 := h.RU.2.1
theorem IX.ms {V : Nat → Nat → Int32} (h : IX V) : 0 ≤ (V 1 2).toInt ∧ (V 1 2).toInt ≤ 8 := h.RU.2.2.1
theorem IX.ev {V : Nat → Nat → Int32} (h : IX V) : ∀ j, 0 ≤ (V 3 j).toInt ∧ (V 3 j).toInt ≤ 5 := h.RU.2.2.2.1
theorem IX.ord {V : Nat → Nat → Int32} (h : IX V) : ∀ j, 0 ≤ (V 4 j).toInt ∧ (V 4 j).toInt ≤ 3 := h.RU.2.2.2.2.1
theorem IX.sn {V : Nat → Nat → Int32} (h : IX V) : ∀ j, 0 ≤ (V 10 j).toInt ∧ (V 10 j).toInt ≤ 3 := h.RU.2.2.2.2.2.2.2.2.1
theorem IX.tk {V : Nat → Nat → Int32} (h : IX V) : ∀ j, -5 ≤ (V 12 j).toInt ∧ (V 12 j).toInt ≤ 3 := h.RU.2.2.2.2.2.2.2.2.2.1
theorem IX.sz {V : Nat → Nat → Int32} (h : IX V) : 0 ≤ (V 61 2).toInt ∧ (V 61 2).toInt ≤ 1296 := h.LT.1
theorem IX.rw {V : Nat → Nat → Int32} (h : IX V) : ∀ j, GR (V 62 j) := h.LT.2.1
theorem IX.nu {V : Nat → Nat → Int32} (h : IX V) : ∀ j, -1 ≤ (V 63 j).toInt ∧ (V 63 j).toInt ≤ 1295 := h.LT.2.2
theorem IX.tl {V : Nat → Nat → Int32} (h : IX V) : 0 ≤ (V 66 0).toInt ∧ (V 66 0).toInt ≤ 60 := h.TP.1
theorem IX.tp {V : Nat → Nat → Int32} (h : IX V) : 0 ≤ (V 66 1).toInt ∧ (V 66 1).toInt ≤ 60 := h.TP.2
theorem IX.cs {V : Nat → Nat → Int32} (h : IX V) : 0 ≤ (V 68 2).toInt ∧ (V 68 2).toInt ≤ 60 := h.CR.1
theorem IX.keep {cs : List Nat} {fs : List (Nat × Nat)} {σ τ : Sg} (h : IX σ.1) (hF : Fr cs fs σ τ) (hc : ∀ x ∈ [3, 4, 5, 7, 10, 11, 12, 16, 17, 18, 20, 23, 24, 25, 43, 44, 45, 46, 47, 48, 62, 63, 69], x ∉ cs ∧ ∀ q ∈ fs, q.1 ≠ x) (ho : ∀ x ∈ [1, 14, 31, 32, 33, 34, 35, 36, 40, 41, 42, 61, 66, 68], x ∉ cs) (hk : ∀ q ∈ [(1, 0), (1, 1), (1, 2), (14, 0), (14, 1), (14, 2), (31, 0), (31, 1), (32, 0), (32, 1), (33, 0), (33, 1), (34, 0), (34, 1), (35, 0), (35, 1), (36, 0), (36, 1), (40, 0), (41, 0), (42, 0), (61, 2), (66, 0), (66, 1), (68, 2)], q ∉ fs) : IX τ.1 := by
  have a : ∀ i ∈ [3, 4, 5, 7, 10, 11, 12, 16, 17, 18, 20, 23, 24, 25, 43, 44, 45, 46, 47, 48, 62, 63, 69], τ.1 i = σ.1 i := fun i hi => hF.a i (hc i hi).1 (hc i hi).2
  have f : ∀ q ∈ [(1, 0), (1, 1), (1, 2), (14, 0), (14, 1), (14, 2), (31, 0), (31, 1), (32, 0), (32, 1), (33, 0), (33, 1), (34, 0), (34, 1), (35, 0), (35, 1), (36, 0), (36, 1), (40, 0), (41, 0), (42, 0), (61, 2), (66, 0), (66, 1), (68, 2)], τ.1 q.1 q.2 = σ.1 q.1 q.2 := fun q hq => hF.f q.1 q.2 (ho q.1 (by revert hq; revert q; decide)) (hk q hq)
  have f1_0 : τ.1 1 0 = σ.1 1 0 := f (1, 0) (by decide)
  have f1_1 : τ.1 1 1 = σ.1 1 1 := f (1, 1) (by decide)
  have f1_2 : τ.1 1 2 = σ.1 1 2 := f (1, 2) (by decide)
  have f14_0 : τ.1 14 0 = σ.1 14 0 := f (14, 0) (by decide)
  have f14_1 : τ.1 14 1 = σ.1 14 1 := f (14, 1) (by decide)
  have f14_2 : τ.1 14 2 = σ.1 14 2 := f (14, 2) (by decide)
  have f31_0 : τ.1 31 0 = σ.1 31 0 := f (31, 0) (by decide)
  have f31_1 : τ.1 31 1 = σ.1 31 1 := f (31, 1) (by decide)
  have f32_0 : τ.1 32 0 = σ.1 32 0 := f (32, 0) (by decide)
  have f32_1 : τ.1 32 1 = σ.1 32 1 := f (32, 1) (by decide)
  have f33_0 : τ.1 33 0 = σ.1 33 0 := f (33, 0) (by decide)
  have f33_1 : τ.1 33 1 = σ.1 33 1 := f (33, 1) (by decide)
  have f34_0 : τ.1 34 0 = σ.1 34 0 := f (34, 0) (by decide)
  have f34_1 : τ.1 34 1 = σ.1 34 1 := f (34, 1) (by decide)
  have f35_0 : τ.1 35 0 = σ.1 35 0 := f (35, 0) (by decide)
  have f35_1 : τ.1 35 1 = σ.1 35 1 := f (35, 1) (by decide)
  have f36_0 : τ.1 36 0 = σ.1 36 0 := f (36, 0) (by decide)
  have f36_1 : τ.1 36 1 = σ.1 36 1 := f (36, 1) (by decide)
  have f40_0 : τ.1 40 0 = σ.1 40 0 := f (40, 0) (by decide)
  have f41_0 : τ.1 41 0 = σ.1 41 0 := f (41, 0) (by decide)
  have f42_0 : τ.1 42 0 = σ.1 42 0 := f (42, 0) (by decide)
  have f61_2 : τ.1 61 2 = σ.1 61 2 := f (61, 2) (by decide)
  have f66_0 : τ.1 66 0 = σ.1 66 0 := f (66, 0) (by decide)
  have f66_1 : τ.1 66 1 = σ.1 66 1 := f (66, 1) (by decide)
  have f68_2 : τ.1 68 2 = σ.1 68 2 := f (68, 2) (by decide)
  unfold IX CN
  rw [f1_0, f1_1, f1_2, f14_0, f14_1, f14_2, f31_0, f31_1, f32_0, f32_1, f33_0, f33_1, f34_0, f34_1, f35_0, f35_1, f36_0, f36_1, f40_0, f41_0, f42_0, f61_2, f66_0, f66_1, f68_2, a 3 (by decide), a 4 (by decide), a 5 (by decide), a 7 (by decide), a 10 (by decide), a 11 (by decide), a 12 (by decide), a 16 (by decide), a 17 (by decide), a 18 (by decide), a 20 (by decide), a 23 (by decide), a 24 (by decide), a 25 (by decide), a 43 (by decide), a 44 (by decide), a 45 (by decide), a 46 (by decide), a 47 (by decide), a 48 (by decide), a 62 (by decide), a 63 (by decide), a 69 (by decide)]
  exact h
theorem IX.kRU {cs : List Nat} {fs : List (Nat × Nat)} {σ τ : Sg} (h : IX σ.1) (hF : Fr cs fs σ τ) (hN : RC (τ.1 1 0) (τ.1 1 1) (τ.1 1 2) (τ.1 3) (τ.1 4) (τ.1 5) (τ.1 7) (τ.1 10) (τ.1 11) (τ.1 12)) (hc : ∀ x ∈ [16, 17, 18, 20, 23, 24, 25, 43, 44, 45, 46, 47, 48, 62, 63, 69], x ∉ cs ∧ ∀ q ∈ fs, q.1 ≠ x) (ho : ∀ x ∈ [14, 31, 32, 33, 34, 35, 36, 40, 41, 42, 61, 66, 68], x ∉ cs) (hk : ∀ q ∈ [(14, 0), (14, 1), (14, 2), (31, 0), (31, 1), (32, 0), (32, 1), (33, 0), (33, 1), (34, 0), (34, 1), (35, 0), (35, 1), (36, 0), (36, 1), (40, 0), (41, 0), (42, 0), (61, 2), (66, 0), (66, 1), (68, 2)], q ∉ fs) : IX τ.1 := by
  have a : ∀ i ∈ [16, 17, 18, 20, 23, 24, 25, 43, 44, 45, 46, 47, 48, 62, 63, 69], τ.1 i = σ.1 i := fun i hi => hF.a i (hc i hi).1 (hc i hi).2
  have f : ∀ q ∈ [(14, 0), (14, 1), (14, 2), (31, 0), (31, 1), (32, 0), (32, 1), (33, 0), (33, 1), (34, 0), (34, 1), (35, 0), (35, 1), (36, 0), (36, 1), (40, 0), (41, 0), (42, 0), (61, 2), (66, 0), (66, 1), (68, 2)], τ.1 q.1 q.2 = σ.1 q.1 q.2 := fun q hq => hF.f q.1 q.2 (ho q.1 (by revert hq; revert q; decide)) (hk q hq)
  have f14_0 : τ.1 14 0 = σ.1 14 0 := f (14, 0) (by decide)
  have f14_1 : τ.1 14 1 = σ.1 14 1 := f (14, 1) (by decide)
  have f14_2 : τ.1 14 2 = σ.1 14 2 := f (14, 2) (by decide)
  have f31_0 : τ.1 31 0 = σ.1 31 0 := f (31, 0) (by decide)
  have f31_1 : τ.1 31 1 = σ.1 31 1 := f (31, 1) (by decide)
  have f32_0 : τ.1 32 0 = σ.1 32 0 := f (32, 0) (by decide)
  have f32_1 : τ.1 32 1 = σ.1 32 1 := f (32, 1) (by decide)
  have f33_0 : τ.1 33 0 = σ.1 33 0 := f (33, 0) (by decide)
  have f33_1 : τ.1 33 1 = σ.1 33 1 := f (33, 1) (by decide)
  have f34_0 : τ.1 34 0 = σ.1 34 0 := f (34, 0) (by decide)
  have f34_1 : τ.1 34 1 = σ.1 34 1 := f (34, 1) (by decide)
  have f35_0 : τ.1 35 0 = σ.1 35 0 := f (35, 0) (by decide)
  have f35_1 : τ.1 35 1 = σ.1 35 1 := f (35, 1) (by decide)
  have f36_0 : τ.1 36 0 = σ.1 36 0 := f (36, 0) (by decide)
  have f36_1 : τ.1 36 1 = σ.1 36 1 := f (36, 1) (by decide)
  have f40_0 : τ.1 40 0 = σ.1 40 0 := f (40, 0) (by decide)
  have f41_0 : τ.1 41 0 = σ.1 41 0 := f (41, 0) (by decide)
  have f42_0 : τ.1 42 0 = σ.1 42 0 := f (42, 0) (by decide)
  have f61_2 : τ.1 61 2 = σ.1 61 2 := f (61, 2) (by decide)
  have f66_0 : τ.1 66 0 = σ.1 66 0 := f (66, 0) (by decide)
  have f66_1 : τ.1 66 1 = σ.1 66 1 := f (66, 1) (by decide)
  have f68_2 : τ.1 68 2 = σ.1 68 2 := f (68, 2) (by decide)
  refine ⟨hN, ?_, ?_, ?_, ?_, ?_, ?_, ?_, ?_, ?_, ?_, ?_, ?_, ?_⟩
  · rw [f14_0, f14_1, f14_2, a 16 (by decide), a 17 (by decide), a 18 (by decide), a 20 (by decide), a 23 (by decide), a 24 (by decide), a 25 (by decide)]; exact h.2.1
  · unfold CN; rw [f31_0, f31_1, a 43 (by decide)]; exact h.2.2.1
  · unfold CN; rw [f32_0, f32_1, a 44 (by decide)]; exact h.2.2.2.1
  · unfold CN; rw [f33_0, f33_1, a 45 (by decide)]; exact h.2.2.2.2.1
  · unfold CN; rw [f34_0, f34_1, a 46 (by decide)]; exact h.2.2.2.2.2.1
  · unfold CN; rw [f35_0, f35_1, a 47 (by decide)]; exact h.2.2.2.2.2.2.1
  · unfold CN; rw [f36_0, f36_1, a 48 (by decide)]; exact h.2.2.2.2.2.2.2.1
  · rw [f40_0]; exact h.2.2.2.2.2.2.2.2.1
  · rw [f41_0]; exact h.2.2.2.2.2.2.2.2.2.1
  · rw [f42_0]; exact h.2.2.2.2.2.2.2.2.2.2.1
  · rw [f61_2, a 62 (by decide), a 63 (by decide)]; exact h.2.2.2.2.2.2.2.2.2.2.2.1
  · rw [f66_0, f66_1]; exact h.2.2.2.2.2.2.2.2.2.2.2.2.1
  · rw [f68_2, a 69 (by decide)]; exact h.2.2.2.2.2.2.2.2.2.2.2.2.2
theorem IX.kRI {cs : List Nat} {fs : List (Nat × Nat)} {σ τ : Sg} (h : IX σ.1) (hF : Fr cs fs σ τ) (hN : RC (τ.1 14 0) (τ.1 14 1) (τ.1 14 2) (τ.1 16) (τ.1 17) (τ.1 18) (τ.1 20) (τ.1 23) (τ.1 24) (τ.1 25)) (hc : ∀ x ∈ [3, 4, 5, 7, 10, 11, 12, 43, 44, 45, 46, 47, 48, 62, 63, 69], x ∉ cs ∧ ∀ q ∈ fs, q.1 ≠ x) (ho : ∀ x ∈ [1, 31, 32, 33, 34, 35, 36, 40, 41, 42, 61, 66, 68], x ∉ cs) (hk : ∀ q ∈ [(1, 0), (1, 1), (1, 2), (31, 0), (31, 1), (32, 0), (32, 1), (33, 0), (33, 1), (34, 0), (34, 1), (35, 0), (35, 1), (36, 0), (36, 1), (40, 0), (41, 0), (42, 0), (61, 2), (66, 0), (66, 1), (68, 2)], q ∉ fs) : IX τ.1 := by
  have a : ∀ i ∈ [3, 4, 5, 7, 10, 11, 12, 43, 44, 45, 46, 47, 48, 62, 63, 69], τ.1 i = σ.1 i := fun i hi => hF.a i (hc i hi).1 (hc i hi).2
  have f : ∀ q ∈ [(1, 0), (1, 1), (1, 2), (31, 0), (31, 1), (32, 0), (32, 1), (33, 0), (33, 1), (34, 0), (34, 1), (35, 0), (35, 1), (36, 0), (36, 1), (40, 0), (41, 0), (42, 0), (61, 2), (66, 0), (66, 1), (68, 2)], τ.1 q.1 q.2 = σ.1 q.1 q.2 := fun q hq => hF.f q.1 q.2 (ho q.1 (by revert hq; revert q; decide)) (hk q hq)
  have f1_0 : τ.1 1 0 = σ.1 1 0 := f (1, 0) (by decide)
  have f1_1 : τ.1 1 1 = σ.1 1 1 := f (1, 1) (by decide)
  have f1_2 : τ.1 1 2 = σ.1 1 2 := f (1, 2) (by decide)
  have f31_0 : τ.1 31 0 = σ.1 31 0 := f (31, 0) (by decide)
  have f31_1 : τ.1 31 1 = σ.1 31 1 := f (31, 1) (by decide)
  have f32_0 : τ.1 32 0 = σ.1 32 0 := f (32, 0) (by decide)
  have f32_1 : τ.1 32 1 = σ.1 32 1 := f (32, 1) (by decide)
  have f33_0 : τ.1 33 0 = σ.1 33 0 := f (33, 0) (by decide)
  have f33_1 : τ.1 33 1 = σ.1 33 1 := f (33, 1) (by decide)
  have f34_0 : τ.1 34 0 = σ.1 34 0 := f (34, 0) (by decide)
  have f34_1 : τ.1 34 1 = σ.1 34 1 := f (34, 1) (by decide)
  have f35_0 : τ.1 35 0 = σ.1 35 0 := f (35, 0) (by decide)
  have f35_1 : τ.1 35 1 = σ.1 35 1 := f (35, 1) (by decide)
  have f36_0 : τ.1 36 0 = σ.1 36 0 := f (36, 0) (by decide)
  have f36_1 : τ.1 36 1 = σ.1 36 1 := f (36, 1) (by decide)
  have f40_0 : τ.1 40 0 = σ.1 40 0 := f (40, 0) (by decide)
  have f41_0 : τ.1 41 0 = σ.1 41 0 := f (41, 0) (by decide)
  have f42_0 : τ.1 42 0 = σ.1 42 0 := f (42, 0) (by decide)
  have f61_2 : τ.1 61 2 = σ.1 61 2 := f (61, 2) (by decide)
  have f66_0 : τ.1 66 0 = σ.1 66 0 := f (66, 0) (by decide)
  have f66_1 : τ.1 66 1 = σ.1 66 1 := f (66, 1) (by decide)
  have f68_2 : τ.1 68 2 = σ.1 68 2 := f (68, 2) (by decide)
  refine ⟨?_, hN, ?_, ?_, ?_, ?_, ?_, ?_, ?_, ?_, ?_, ?_, ?_, ?_⟩
  · rw [f1_0, f1_1, f1_2, a 3 (by decide), a 4 (by decide), a 5 (by decide), a 7 (by decide), a 10 (by decide), a 11 (by decide), a 12 (by decide)]; exact h.1
  · unfold CN; rw [f31_0, f31_1, a 43 (by decide)]; exact h.2.2.1
  · unfold CN; rw [f32_0, f32_1, a 44 (by decide)]; exact h.2.2.2.1
  · unfold CN; rw [f33_0, f33_1, a 45 (by decide)]; exact h.2.2.2.2.1
  · unfold CN; rw [f34_0, f34_1, a 46 (by decide)]; exact h.2.2.2.2.2.1
  · unfold CN; rw [f35_0, f35_1, a 47 (by decide)]; exact h.2.2.2.2.2.2.1
  · unfold CN; rw [f36_0, f36_1, a 48 (by decide)]; exact h.2.2.2.2.2.2.2.1
  · rw [f40_0]; exact h.2.2.2.2.2.2.2.2.1
  · rw [f41_0]; exact h.2.2.2.2.2.2.2.2.2.1
  · rw [f42_0]; exact h.2.2.2.2.2.2.2.2.2.2.1
  · rw [f61_2, a 62 (by decide), a 63 (by decide)]; exact h.2.2.2.2.2.2.2.2.2.2.2.1
  · rw [f66_0, f66_1]; exact h.2.2.2.2.2.2.2.2.2.2.2.2.1
  · rw [f68_2, a 69 (by decide)]; exact h.2.2.2.2.2.2.2.2.2.2.2.2.2
theorem IX.kC0 {cs : List Nat} {fs : List (Nat × Nat)} {σ τ : Sg} (h : IX σ.1) (hF : Fr cs fs σ τ) (hN : CN τ.1 31 43) (hc : ∀ x ∈ [3, 4, 5, 7, 10, 11, 12, 16, 17, 18, 20, 23, 24, 25, 44, 45, 46, 47, 48, 62, 63, 69], x ∉ cs ∧ ∀ q ∈ fs, q.1 ≠ x) (ho : ∀ x ∈ [1, 14, 32, 33, 34, 35, 36, 40, 41, 42, 61, 66, 68], x ∉ cs) (hk : ∀ q ∈ [(1, 0), (1, 1), (1, 2), (14, 0), (14, 1), (14, 2), (32, 0), (32, 1), (33, 0), (33, 1), (34, 0), (34, 1), (35, 0), (35, 1), (36, 0), (36, 1), (40, 0), (41, 0), (42, 0), (61, 2), (66, 0), (66, 1), (68, 2)], q ∉ fs) : IX τ.1 := by
  have a : ∀ i ∈ [3, 4, 5, 7, 10, 11, 12, 16, 17, 18, 20, 23, 24, 25, 44, 45, 46, 47, 48, 62, 63, 69], τ.1 i = σ.1 i := fun i hi => hF.a i (hc i hi).1 (hc i hi).2
  have f : ∀ q ∈ [(1, 0), (1, 1), (1, 2), (14, 0), (14, 1), (14, 2), (32, 0), (32, 1), (33, 0), (33, 1), (34, 0), (34, 1), (35, 0), (35, 1), (36, 0), (36, 1), (40, 0), (41, 0), (42, 0), (61, 2), (66, 0), (66, 1), (68, 2)], τ.1 q.1 q.2 = σ.1 q.1 q.2 := fun q hq => hF.f q.1 q.2 (ho q.1 (by revert hq; revert q; decide)) (hk q hq)
  have f1_0 : τ.1 1 0 = σ.1 1 0 := f (1, 0) (by decide)
  have f1_1 : τ.1 1 1 = σ.1 1 1 := f (1, 1) (by decide)
  have f1_2 : τ.1 1 2 = σ.1 1 2 := f (1, 2) (by decide)
  have f14_0 : τ.1 14 0 = σ.1 14 0 := f (14, 0) (by decide)
  have f14_1 : τ.1 14 1 = σ.1 14 1 := f (14, 1) (by decide)
  have f14_2 : τ.1 14 2 = σ.1 14 2 := f (14, 2) (by decide)
  have f32_0 : τ.1 32 0 = σ.1 32 0 := f (32, 0) (by decide)
  have f32_1 : τ.1 32 1 = σ.1 32 1 := f (32, 1) (by decide)
  have f33_0 : τ.1 33 0 = σ.1 33 0 := f (33, 0) (by decide)
  have f33_1 : τ.1 33 1 = σ.1 33 1 := f (33, 1) (by decide)
  have f34_0 : τ.1 34 0 = σ.1 34 0 := f (34, 0) (by decide)
  have f34_1 : τ.1 34 1 = σ.1 34 1 := f (34, 1) (by decide)
  have f35_0 : τ.1 35 0 = σ.1 35 0 := f (35, 0) (by decide)
  have f35_1 : τ.1 35 1 = σ.1 35 1 := f (35, 1) (by decide)
  have f36_0 : τ.1 36 0 = σ.1 36 0 := f (36, 0) (by decide)
  have f36_1 : τ.1 36 1 = σ.1 36 1 := f (36, 1) (by decide)
  have f40_0 : τ.1 40 0 = σ.1 40 0 := f (40, 0) (by decide)
  have f41_0 : τ.1 41 0 = σ.1 41 0 := f (41, 0) (by decide)
  have f42_0 : τ.1 42 0 = σ.1 42 0 := f (42, 0) (by decide)
  have f61_2 : τ.1 61 2 = σ.1 61 2 := f (61, 2) (by decide)
  have f66_0 : τ.1 66 0 = σ.1 66 0 := f (66, 0) (by decide)
  have f66_1 : τ.1 66 1 = σ.1 66 1 := f (66, 1) (by decide)
  have f68_2 : τ.1 68 2 = σ.1 68 2 := f (68, 2) (by decide)
  refine ⟨?_, ?_, hN, ?_, ?_, ?_, ?_, ?_, ?_, ?_, ?_, ?_, ?_, ?_⟩
  · rw [f1_0, f1_1, f1_2, a 3 (by decide), a 4 (by decide), a 5 (by decide), a 7 (by decide), a 10 (by decide), a 11 (by decide), a 12 (by decide)]; exact h.1
  · rw [f14_0, f14_1, f14_2, a 16 (by decide), a 17 (by decide), a 18 (by decide), a 20 (by decide), a 23 (by decide), a 24 (by decide), a 25 (by decide)]; exact h.2.1
  · unfold CN; rw [f32_0, f32_1, a 44 (by decide)]; exact h.2.2.2.1
  · unfold CN; rw [f33_0, f33_1, a 45 (by decide)]; exact h.2.2.2.2.1
  · unfold CN; rw [f34_0, f34_1, a 46 (by decide)]; exact h.2.2.2.2.2.1
  · unfold CN; rw [f35_0, f35_1, a 47 (by decide)]; exact h.2.2.2.2.2.2.1
  · unfold CN; rw [f36_0, f36_1, a 48 (by decide)]; exact h.2.2.2.2.2.2.2.1
  · rw [f40_0]; exact h.2.2.2.2.2.2.2.2.1
  · rw [f41_0]; exact h.2.2.2.2.2.2.2.2.2.1
  · rw [f42_0]; exact h.2.2.2.2.2.2.2.2.2.2.1
  · rw [f61_2, a 62 (by decide), a 63 (by decide)]; exact h.2.2.2.2.2.2.2.2.2.2.2.1
  · rw [f66_0, f66_1]; exact h.2.2.2.2.2.2.2.2.2.2.2.2.1
  · rw [f68_2, a 69 (by decide)]; exact h.2.2.2.2.2.2.2.2.2.2.2.2.2
theorem IX.kC1 {cs : List Nat} {fs : List (Nat × Nat)} {σ τ : Sg} (h : IX σ.1) (hF : Fr cs fs σ τ) (hN : CN τ.1 32 44) (hc : ∀ x ∈ [3, 4, 5, 7, 10, 11, 12, 16, 17, 18, 20, 23, 24, 25, 43, 45, 46, 47, 48, 62, 63, 69], x ∉ cs ∧ ∀ q ∈ fs, q.1 ≠ x) (ho : ∀ x ∈ [1, 14, 31, 33, 34, 35, 36, 40, 41, 42, 61, 66, 68], x ∉ cs) (hk : ∀ q ∈ [(1, 0), (1, 1), (1, 2), (14, 0), (14, 1), (14, 2), (31, 0), (31, 1), (33, 0), (33, 1), (34, 0), (34, 1), (35, 0), (35, 1), (36, 0), (36, 1), (40, 0), (41, 0), (42, 0), (61, 2), (66, 0), (66, 1), (68, 2)], q ∉ fs) : IX τ.1 := by
  have a : ∀ i ∈ [3, 4, 5, 7, 10, 11, 12, 16, 17, 18, 20, 23, 24, 25, 43, 45, 46, 47, 48, 62, 63, 69], τ.1 i = σ.1 i := fun i hi => hF.a i (hc i hi).1 (hc i hi).2
  have f : ∀ q ∈ [(1, 0), (1, 1), (1, 2), (14, 0), (14, 1), (14, 2), (31, 0), (31, 1), (33, 0), (33, 1), (34, 0), (34, 1), (35, 0), (35, 1), (36, 0), (36, 1), (40, 0), (41, 0), (42, 0), (61, 2), (66, 0), (66, 1), (68, 2)], τ.1 q.1 q.2 = σ.1 q.1 q.2 := fun q hq => hF.f q.1 q.2 (ho q.1 (by revert hq; revert q; decide)) (hk q hq)
  have f1_0 : τ.1 1 0 = σ.1 1 0 := f (1, 0) (by decide)
  have f1_1 : τ.1 1 1 = σ.1 1 1 := f (1, 1) (by decide)
  have f1_2 : τ.1 1 2 = σ.1 1 2 := f (1, 2) (by decide)
  have f14_0 : τ.1 14 0 = σ.1 14 0 := f (14, 0) (by decide)
  have f14_1 : τ.1 14 1 = σ.1 14 1 := f (14, 1) (by decide)
  have f14_2 : τ.1 14 2 = σ.1 14 2 := f (14, 2) (by decide)
  have f31_0 : τ.1 31 0 = σ.1 31 0 := f (31, 0) (by decide)
  have f31_1 : τ.1 31 1 = σ.1 31 1 := f (31, 1) (by decide)
  have f33_0 : τ.1 33 0 = σ.1 33 0 := f (33, 0) (by decide)
  have f33_1 : τ.1 33 1 = σ.1 33 1 := f (33, 1) (by decide)
  have f34_0 : τ.1 34 0 = σ.1 34 0 := f (34, 0) (by decide)
  have f34_1 : τ.1 34 1 = σ.1 34 1 := f (34, 1) (by decide)
  have f35_0 : τ.1 35 0 = σ.1 35 0 := f (35, 0) (by decide)
  have f35_1 : τ.1 35 1 = σ.1 35 1 := f (35, 1) (by decide)
  have f36_0 : τ.1 36 0 = σ.1 36 0 := f (36, 0) (by decide)
  have f36_1 : τ.1 36 1 = σ.1 36 1 := f (36, 1) (by decide)
  have f40_0 : τ.1 40 0 = σ.1 40 0 := f (40, 0) (by decide)
  have f41_0 : τ.1 41 0 = σ.1 41 0 := f (41, 0) (by decide)
  have f42_0 : τ.1 42 0 = σ.1 42 0 := f (42, 0) (by decide)
  have f61_2 : τ.1 61 2 = σ.1 61 2 := f (61, 2) (by decide)
  have f66_0 : τ.1 66 0 = σ.1 66 0 := f (66, 0) (by decide)
  have f66_1 : τ.1 66 1 = σ.1 66 1 := f (66, 1) (by decide)
  have f68_2 : τ.1 68 2 = σ.1 68 2 := f (68, 2) (by decide)
  refine ⟨?_, ?_, ?_, hN, ?_, ?_, ?_, ?_, ?_, ?_, ?_, ?_, ?_, ?_⟩
  · rw [f1_0, f1_1, f1_2, a 3 (by decide), a 4 (by decide), a 5 (by decide), a 7 (by decide), a 10 (by decide), a 11 (by decide), a 12 (by decide)]; exact h.1
  · rw [f14_0, f14_1, f14_2, a 16 (by decide), a 17 (by decide), a 18 (by decide), a 20 (by decide), a 23 (by decide), a 24 (by decide), a 25 (by decide)]; exact h.2.1
  · unfold CN; rw [f31_0, f31_1, a 43 (by decide)]; exact h.2.2.1
  · unfold CN; rw [f33_0, f33_1, a 45 (by decide)]; exact h.2.2.2.2.1
  · unfold CN; rw [f34_0, f34_1, a 46 (by decide)]; exact h.2.2.2.2.2.1
  · unfold CN; rw [f35_0, f35_1, a 47 (by decide)]; exact h.2.2.2.2.2.2.1
  · unfold CN; rw [f36_0, f36_1, a 48 (by decide)]; exact h.2.2.2.2.2.2.2.1
  · rw [f40_0]; exact h.2.2.2.2.2.2.2.2.1
  · rw [f41_0]; exact h.2.2.2.2.2.2.2.2.2.1
  · rw [f42_0]; exact h.2.2.2.2.2.2.2.2.2.2.1
  · rw [f61_2, a 62 (by decide), a 63 (by decide)]; exact h.2.2.2.2.2.2.2.2.2.2.2.1
  · rw [f66_0, f66_1]; exact h.2.2.2.2.2.2.2.2.2.2.2.2.1
  · rw [f68_2, a 69 (by decide)]; exact h.2.2.2.2.2.2.2.2.2.2.2.2.2
theorem IX.kC2 {cs : List Nat} {fs : List (Nat × Nat)} {σ τ : Sg} (h : IX σ.1) (hF : Fr cs fs σ τ) (hN : CN τ.1 33 45) (hc : ∀ x ∈ [3, 4, 5, 7, 10, 11, 12, 16, 17, 18, 20, 23, 24, 25, 43, 44, 46, 47, 48, 62, 63, 69], x ∉ cs ∧ ∀ q ∈ fs, q.1 ≠ x) (ho : ∀ x ∈ [1, 14, 31, 32, 34, 35, 36, 40, 41, 42, 61, 66, 68], x ∉ cs) (hk : ∀ q ∈ [(1, 0), (1, 1), (1, 2), (14, 0), (14, 1), (14, 2), (31, 0), (31, 1), (32, 0), (32, 1), (34, 0), (34, 1), (35, 0), (35, 1), (36, 0), (36, 1), (40, 0), (41, 0), (42, 0), (61, 2), (66, 0), (66, 1), (68, 2)], q ∉ fs) : IX τ.1 := by
  have a : ∀ i ∈ [3, 4, 5, 7, 10, 11, 12, 16, 17, 18, 20, 23, 24, 25, 43, 44, 46, 47, 48, 62, 63, 69], τ.1 i = σ.1 i := fun i hi => hF.a i (hc i hi).1 (hc i hi).2
  have f : ∀ q ∈ [(1, 0), (1, 1), (1, 2), (14, 0), (14, 1), (14, 2), (31, 0), (31, 1), (32, 0), (32, 1), (34, 0), (34, 1), (35, 0), (35, 1), (36, 0), (36, 1), (40, 0), (41, 0), (42, 0), (61, 2), (66, 0), (66, 1), (68, 2)], τ.1 q.1 q.2 = σ.1 q.1 q.2 := fun q hq => hF.f q.1 q.2 (ho q.1 (by revert hq; revert q; decide)) (hk q hq)
  have f1_0 : τ.1 1 0 = σ.1 1 0 := f (1, 0) (by decide)
  have f1_1 : τ.1 1 1 = σ.1 1 1 := f (1, 1) (by decide)
  have f1_2 : τ.1 1 2 = σ.1 1 2 := f (1, 2) (by decide)
  have f14_0 : τ.1 14 0 = σ.1 14 0 := f (14, 0) (by decide)
  have f14_1 : τ.1 14 1 = σ.1 14 1 := f (14, 1) (by decide)
  have f14_2 : τ.1 14 2 = σ.1 14 2 := f (14, 2) (by decide)
  have f31_0 : τ.1 31 0 = σ.1 31 0 := f (31, 0) (by decide)
  have f31_1 : τ.1 31 1 = σ.1 31 1 := f (31, 1) (by decide)
  have f32_0 : τ.1 32 0 = σ.1 32 0 := f (32, 0) (by decide)
  have f32_1 : τ.1 32 1 = σ.1 32 1 := f (32, 1) (by decide)
  have f34_0 : τ.1 34 0 = σ.1 34 0 := f (34, 0) (by decide)
  have f34_1 : τ.1 34 1 = σ.1 34 1 := f (34, 1) (by decide)
  have f35_0 : τ.1 35 0 = σ.1 35 0 := f (35, 0) (by decide)
  have f35_1 : τ.1 35 1 = σ.1 35 1 := f (35, 1) (by decide)
  have f36_0 : τ.1 36 0 = σ.1 36 0 := f (36, 0) (by decide)
  have f36_1 : τ.1 36 1 = σ.1 36 1 := f (36, 1) (by decide)
  have f40_0 : τ.1 40 0 = σ.1 40 0 := f (40, 0) (by decide)
  have f41_0 : τ.1 41 0 = σ.1 41 0 := f (41, 0) (by decide)
  have f42_0 : τ.1 42 0 = σ.1 42 0 := f (42, 0) (by decide)
  have f61_2 : τ.1 61 2 = σ.1 61 2 := f (61, 2) (by decide)
  have f66_0 : τ.1 66 0 = σ.1 66 0 := f (66, 0) (by decide)
  have f66_1 : τ.1 66 1 = σ.1 66 1 := f (66, 1) (by decide)
  have f68_2 : τ.1 68 2 = σ.1 68 2 := f (68, 2) (by decide)
  refine ⟨?_, ?_, ?_, ?_, hN, ?_, ?_, ?_, ?_, ?_, ?_, ?_, ?_, ?_⟩
  · rw [f1_0, f1_1, f1_2, a 3 (by decide), a 4 (by decide), a 5 (by decide), a 7 (by decide), a 10 (by decide), a 11 (by decide), a 12 (by decide)]; exact h.1
  · rw [f14_0, f14_1, f14_2, a 16 (by decide), a 17 (by decide), a 18 (by decide), a 20 (by decide), a 23 (by decide), a 24 (by decide), a 25 (by decide)]; exact h.2.1
  · unfold CN; rw [f31_0, f31_1, a 43 (by decide)]; exact h.2.2.1
  · unfold CN; rw [f32_0, f32_1, a 44 (by decide)]; exact h.2.2.2.1
  · unfold CN; rw [f34_0, f34_1, a 46 (by decide)]; exact h.2.2.2.2.2.1
  · unfold CN; rw [f35_0, f35_1, a 47 (by decide)]; exact h.2.2.2.2.2.2.1
  · unfold CN; rw [f36_0, f36_1, a 48 (by decide)]; exact h.2.2.2.2.2.2.2.1
  · rw [f40_0]; exact h.2.2.2.2.2.2.2.2.1
  · rw [f41_0]; exact h.2.2.2.2.2.2.2.2.2.1
  · rw [f42_0]; exact h.2.2.2.2.2.2.2.2.2.2.1
  · rw [f61_2, a 62 (by decide), a 63 (by decide)]; exact h.2.2.2.2.2.2.2.2.2.2.2.1
  · rw [f66_0, f66_1]; exact h.2.2.2.2.2.2.2.2.2.2.2.2.1
  · rw [f68_2, a 69 (by decide)]; exact h.2.2.2.2.2.2.2.2.2.2.2.2.2
theorem IX.kI0 {cs : List Nat} {fs : List (Nat × Nat)} {σ τ : Sg} (h : IX σ.1) (hF : Fr cs fs σ τ) (hN : CN τ.1 34 46) (hc : ∀ x ∈ [3, 4, 5, 7, 10, 11, 12, 16, 17, 18, 20, 23, 24, 25, 43, 44, 45, 47, 48, 62, 63, 69], x ∉ cs ∧ ∀ q ∈ fs, q.1 ≠ x) (ho : ∀ x ∈ [1, 14, 31, 32, 33, 35, 36, 40, 41, 42, 61, 66, 68], x ∉ cs) (hk : ∀ q ∈ [(1, 0), (1, 1), (1, 2), (14, 0), (14, 1), (14, 2), (31, 0), (31, 1), (32, 0), (32, 1), (33, 0), (33, 1), (35, 0), (35, 1), (36, 0), (36, 1), (40, 0), (41, 0), (42, 0), (61, 2), (66, 0), (66, 1), (68, 2)], q ∉ fs) : IX τ.1 := by
  have a : ∀ i ∈ [3, 4, 5, 7, 10, 11, 12, 16, 17, 18, 20, 23, 24, 25, 43, 44, 45, 47, 48, 62, 63, 69], τ.1 i = σ.1 i := fun i hi => hF.a i (hc i hi).1 (hc i hi).2
  have f : ∀ q ∈ [(1, 0), (1, 1), (1, 2), (14, 0), (14, 1), (14, 2), (31, 0), (31, 1), (32, 0), (32, 1), (33, 0), (33, 1), (35, 0), (35, 1), (36, 0), (36, 1), (40, 0), (41, 0), (42, 0), (61, 2), (66, 0), (66, 1), (68, 2)], τ.1 q.1 q.2 = σ.1 q.1 q.2 := fun q hq => hF.f q.1 q.2 (ho q.1 (by revert hq; revert q; decide)) (hk q hq)
  have f1_0 : τ.1 1 0 = σ.1 1 0 := f (1, 0) (by decide)
  have f1_1 : τ.1 1 1 = σ.1 1 1 := f (1, 1) (by decide)
  have f1_2 : τ.1 1 2 = σ.1 1 2 := f (1, 2) (by decide)
  have f14_0 : τ.1 14 0 = σ.1 14 0 := f (14, 0) (by decide)
  have f14_1 : τ.1 14 1 = σ.1 14 1 := f (14, 1) (by decide)
  have f14_2 : τ.1 14 2 = σ.1 14 2 := f (14, 2) (by decide)
  have f31_0 : τ.1 31 0 = σ.1 31 0 := f (31, 0) (by decide)
  have f31_1 : τ.1 31 1 = σ.1 31 1 := f (31, 1) (by decide)
  have f32_0 : τ.1 32 0 = σ.1 32 0 := f (32, 0) (by decide)
  have f32_1 : τ.1 32 1 = σ.1 32 1 := f (32, 1) (by decide)
  have f33_0 : τ.1 33 0 = σ.1 33 0 := f (33, 0) (by decide)
  have f33_1 : τ.1 33 1 = σ.1 33 1 := f (33, 1) (by decide)
  have f35_0 : τ.1 35 0 = σ.1 35 0 := f (35, 0) (by decide)
  have f35_1 : τ.1 35 1 = σ.1 35 1 := f (35, 1) (by decide)
  have f36_0 : τ.1 36 0 = σ.1 36 0 := f (36, 0) (by decide)
  have f36_1 : τ.1 36 1 = σ.1 36 1 := f (36, 1) (by decide)
  have f40_0 : τ.1 40 0 = σ.1 40 0 := f (40, 0) (by decide)
  have f41_0 : τ.1 41 0 = σ.1 41 0 := f (41, 0) (by decide)
  have f42_0 : τ.1 42 0 = σ.1 42 0 := f (42, 0) (by decide)
  have f61_2 : τ.1 61 2 = σ.1 61 2 := f (61, 2) (by decide)
  have f66_0 : τ.1 66 0 = σ.1 66 0 := f (66, 0) (by decide)
  have f66_1 : τ.1 66 1 = σ.1 66 1 := f (66, 1) (by decide)
  have f68_2 : τ.1 68 2 = σ.1 68 2 := f (68, 2) (by decide)
  refine ⟨?_, ?_, ?_, ?_, ?_, hN, ?_, ?_, ?_, ?_, ?_, ?_, ?_, ?_⟩
  · rw [f1_0, f1_1, f1_2, a 3 (by decide), a 4 (by decide), a 5 (by decide), a 7 (by decide), a 10 (by decide), a 11 (by decide), a 12 (by decide)]; exact h.1
  · rw [f14_0, f14_1, f14_2, a 16 (by decide), a 17 (by decide), a 18 (by decide), a 20 (by decide), a 23 (by decide), a 24 (by decide), a 25 (by decide)]; exact h.2.1
  · unfold CN; rw [f31_0, f31_1, a 43 (by decide)]; exact h.2.2.1
  · unfold CN; rw [f32_0, f32_1, a 44 (by decide)]; exact h.2.2.2.1
  · unfold CN; rw [f33_0, f33_1, a 45 (by decide)]; exact h.2.2.2.2.1
  · unfold CN; rw [f35_0, f35_1, a 47 (by decide)]; exact h.2.2.2.2.2.2.1
  · unfold CN; rw [f36_0, f36_1, a 48 (by decide)]; exact h.2.2.2.2.2.2.2.1
  · rw [f40_0]; exact h.2.2.2.2.2.2.2.2.1
  · rw [f41_0]; exact h.2.2.2.2.2.2.2.2.2.1
  · rw [f42_0]; exact h.2.2.2.2.2.2.2.2.2.2.1
  · rw [f61_2, a 62 (by decide), a 63 (by decide)]; exact h.2.2.2.2.2.2.2.2.2.2.2.1
  · rw [f66_0, f66_1]; exact h.2.2.2.2.2.2.2.2.2.2.2.2.1
  · rw [f68_2, a 69 (by decide)]; exact h.2.2.2.2.2.2.2.2.2.2.2.2.2
theorem IX.kI1 {cs : List Nat} {fs : List (Nat × Nat)} {σ τ : Sg} (h : IX σ.1) (hF : Fr cs fs σ τ) (hN : CN τ.1 35 47) (hc : ∀ x ∈ [3, 4, 5, 7, 10, 11, 12, 16, 17, 18, 20, 23, 24, 25, 43, 44, 45, 46, 48, 62, 63, 69], x ∉ cs ∧ ∀ q ∈ fs, q.1 ≠ x) (ho : ∀ x ∈ [1, 14, 31, 32, 33, 34, 36, 40, 41, 42, 61, 66, 68], x ∉ cs) (hk : ∀ q ∈ [(1, 0), (1, 1), (1, 2), (14, 0), (14, 1), (14, 2), (31, 0), (31, 1), (32, 0), (32, 1), (33, 0), (33, 1), (34, 0), (34, 1), (36, 0), (36, 1), (40, 0), (41, 0), (42, 0), (61, 2), (66, 0), (66, 1), (68, 2)], q ∉ fs) : IX τ.1 := by
  have a : ∀ i ∈ [3, 4, 5, 7, 10, 11, 12, 16, 17, 18, 20, 23, 24, 25, 43, 44, 45, 46, 48, 62, 63, 69], τ.1 i = σ.1 i := fun i hi => hF.a i (hc i hi).1 (hc i hi).2
  have f : ∀ q ∈ [(1, 0), (1, 1), (1, 2), (14, 0), (14, 1), (14, 2), (31, 0), (31, 1), (32, 0), (32, 1), (33, 0), (33, 1), (34, 0), (34, 1), (36, 0), (36, 1), (40, 0), (41, 0), (42, 0), (61, 2), (66, 0), (66, 1), (68, 2)], τ.1 q.1 q.2 = σ.1 q.1 q.2 := fun q hq => hF.f q.1 q.2 (ho q.1 (by revert hq; revert q; decide)) (hk q hq)
  have f1_0 : τ.1 1 0 = σ.1 1 0 := f (1, 0) (by decide)
  have f1_1 : τ.1 1 1 = σ.1 1 1 := f (1, 1) (by decide)
  have f1_2 : τ.1 1 2 = σ.1 1 2 := f (1, 2) (by decide)
  have f14_0 : τ.1 14 0 = σ.1 14 0 := f (14, 0) (by decide)
  have f14_1 : τ.1 14 1 = σ.1 14 1 := f (14, 1) (by decide)
  have f14_2 : τ.1 14 2 = σ.1 14 2 := f (14, 2) (by decide)
  have f31_0 : τ.1 31 0 = σ.1 31 0 := f (31, 0) (by decide)
  have f31_1 : τ.1 31 1 = σ.1 31 1 := f (31, 1) (by decide)
  have f32_0 : τ.1 32 0 = σ.1 32 0 := f (32, 0) (by decide)
  have f32_1 : τ.1 32 1 = σ.1 32 1 := f (32, 1) (by decide)
  have f33_0 : τ.1 33 0 = σ.1 33 0 := f (33, 0) (by decide)
  have f33_1 : τ.1 33 1 = σ.1 33 1 := f (33, 1) (by decide)
  have f34_0 : τ.1 34 0 = σ.1 34 0 := f (34, 0) (by decide)
  have f34_1 : τ.1 34 1 = σ.1 34 1 := f (34, 1) (by decide)
  have f36_0 : τ.1 36 0 = σ.1 36 0 := f (36, 0) (by decide)
  have f36_1 : τ.1 36 1 = σ.1 36 1 := f (36, 1) (by decide)
  have f40_0 : τ.1 40 0 = σ.1 40 0 := f (40, 0) (by decide)
  have f41_0 : τ.1 41 0 = σ.1 41 0 := f (41, 0) (by decide)
  have f42_0 : τ.1 42 0 = σ.1 42 0 := f (42, 0) (by decide)
  have f61_2 : τ.1 61 2 = σ.1 61 2 := f (61, 2) (by decide)
  have f66_0 : τ.1 66 0 = σ.1 66 0 := f (66, 0) (by decide)
  have f66_1 : τ.1 66 1 = σ.1 66 1 := f (66, 1) (by decide)
  have f68_2 : τ.1 68 2 = σ.1 68 2 := f (68, 2) (by decide)
  refine ⟨?_, ?_, ?_, ?_, ?_, ?_, hN, ?_, ?_, ?_, ?_, ?_, ?_, ?_⟩
  · rw [f1_0, f1_1, f1_2, a 3 (by decide), a 4 (by decide), a 5 (by decide), a 7 (by decide), a 10 (by decide), a 11 (by decide), a 12 (by decide)]; exact h.1
  · rw [f14_0, f14_1, f14_2, a 16 (by decide), a 17 (by decide), a 18 (by decide), a 20 (by decide), a 23 (by decide), a 24 (by decide), a 25 (by decide)]; exact h.2.1
  · unfold CN; rw [f31_0, f31_1, a 43 (by decide)]; exact h.2.2.1
  · unfold CN; rw [f32_0, f32_1, a 44 (by decide)]; exact h.2.2.2.1
  · unfold CN; rw [f33_0, f33_1, a 45 (by decide)]; exact h.2.2.2.2.1
  · unfold CN; rw [f34_0, f34_1, a 46 (by decide)]; exact h.2.2.2.2.2.1
  · unfold CN; rw [f36_0, f36_1, a 48 (by decide)]; exact h.2.2.2.2.2.2.2.1
  · rw [f40_0]; exact h.2.2.2.2.2.2.2.2.1
  · rw [f41_0]; exact h.2.2.2.2.2.2.2.2.2.1
  · rw [f42_0]; exact h.2.2.2.2.2.2.2.2.2.2.1
  · rw [f61_2, a 62 (by decide), a 63 (by decide)]; exact h.2.2.2.2.2.2.2.2.2.2.2.1
  · rw [f66_0, f66_1]; exact h.2.2.2.2.2.2.2.2.2.2.2.2.1
  · rw [f68_2, a 69 (by decide)]; exact h.2.2.2.2.2.2.2.2.2.2.2.2.2
theorem IX.kI2 {cs : List Nat} {fs : List (Nat × Nat)} {σ τ : Sg} (h : IX σ.1) (hF : Fr cs fs σ τ) (hN : CN τ.1 36 48) (hc : ∀ x ∈ [3, 4, 5, 7, 10, 11, 12, 16, 17, 18, 20, 23, 24, 25, 43, 44, 45, 46, 47, 62, 63, 69], x ∉ cs ∧ ∀ q ∈ fs, q.1 ≠ x) (ho : ∀ x ∈ [1, 14, 31, 32, 33, 34, 35, 40, 41, 42, 61, 66, 68], x ∉ cs) (hk : ∀ q ∈ [(1, 0), (1, 1), (1, 2), (14, 0), (14, 1), (14, 2), (31, 0), (31, 1), (32, 0), (32, 1), (33, 0), (33, 1), (34, 0), (34, 1), (35, 0), (35, 1), (40, 0), (41, 0), (42, 0), (61, 2), (66, 0), (66, 1), (68, 2)], q ∉ fs) : IX τ.1 := by
  have a : ∀ i ∈ [3, 4, 5, 7, 10, 11, 12, 16, 17, 18, 20, 23, 24, 25, 43, 44, 45, 46, 47, 62, 63, 69], τ.1 i = σ.1 i := fun i hi => hF.a i (hc i hi).1 (hc i hi).2
  have f : ∀ q ∈ [(1, 0), (1, 1), (1, 2), (14, 0), (14, 1), (14, 2), (31, 0), (31, 1), (32, 0), (32, 1), (33, 0), (33, 1), (34, 0), (34, 1), (35, 0), (35, 1), (40, 0), (41, 0), (42, 0), (61, 2), (66, 0), (66, 1), (68, 2)], τ.1 q.1 q.2 = σ.1 q.1 q.2 := fun q hq => hF.f q.1 q.2 (ho q.1 (by revert hq; revert q; decide)) (hk q hq)
  have f1_0 : τ.1 1 0 = σ.1 1 0 := f (1, 0) (by decide)
  have f1_1 : τ.1 1 1 = σ.1 1 1 := f (1, 1) (by decide)
  have f1_2 : τ.1 1 2 = σ.1 1 2 := f (1, 2) (by decide)
  have f14_0 : τ.1 14 0 = σ.1 14 0 := f (14, 0) (by decide)
  have f14_1 : τ.1 14 1 = σ.1 14 1 := f (14, 1) (by decide)
  have f14_2 : τ.1 14 2 = σ.1 14 2 := f (14, 2) (by decide)
  have f31_0 : τ.1 31 0 = σ.1 31 0 := f (31, 0) (by decide)
  have f31_1 : τ.1 31 1 = σ.1 31 1 := f (31, 1) (by decide)
  have f32_0 : τ.1 32 0 = σ.1 32 0 := f (32, 0) (by decide)
  have f32_1 : τ.1 32 1 = σ.1 32 1 := f (32, 1) (by decide)
  have f33_0 : τ.1 33 0 = σ.1 33 0 := f (33, 0) (by decide)
  have f33_1 : τ.1 33 1 = σ.1 33 1 := f (33, 1) (by decide)
  have f34_0 : τ.1 34 0 = σ.1 34 0 := f (34, 0) (by decide)
  have f34_1 : τ.1 34 1 = σ.1 34 1 := f (34, 1) (by decide)
  have f35_0 : τ.1 35 0 = σ.1 35 0 := f (35, 0) (by decide)
  have f35_1 : τ.1 35 1 = σ.1 35 1 := f (35, 1) (by decide)
  have f40_0 : τ.1 40 0 = σ.1 40 0 := f (40, 0) (by decide)
  have f41_0 : τ.1 41 0 = σ.1 41 0 := f (41, 0) (by decide)
  have f42_0 : τ.1 42 0 = σ.1 42 0 := f (42, 0) (by decide)
  have f61_2 : τ.1 61 2 = σ.1 61 2 := f (61, 2) (by decide)
  have f66_0 : τ.1 66 0 = σ.1 66 0 := f (66, 0) (by decide)
  have f66_1 : τ.1 66 1 = σ.1 66 1 := f (66, 1) (by decide)
  have f68_2 : τ.1 68 2 = σ.1 68 2 := f (68, 2) (by decide)
  refine ⟨?_, ?_, ?_, ?_, ?_, ?_, ?_, hN, ?_, ?_, ?_, ?_, ?_, ?_⟩
  · rw [f1_0, f1_1, f1_2, a 3 (by decide), a 4 (by decide), a 5 (by decide), a 7 (by decide), a 10 (by decide), a 11 (by decide), a 12 (by decide)]; exact h.1
  · rw [f14_0, f14_1, f14_2, a 16 (by decide), a 17 (by decide), a 18 (by decide), a 20 (by decide), a 23 (by decide), a 24 (by decide), a 25 (by decide)]; exact h.2.1
  · unfold CN; rw [f31_0, f31_1, a 43 (by decide)]; exact h.2.2.1
  · unfold CN; rw [f32_0, f32_1, a 44 (by decide)]; exact h.2.2.2.1
  · unfold CN; rw [f33_0, f33_1, a 45 (by decide)]; exact h.2.2.2.2.1
  · unfold CN; rw [f34_0, f34_1, a 46 (by decide)]; exact h.2.2.2.2.2.1
  · unfold CN; rw [f35_0, f35_1, a 47 (by decide)]; exact h.2.2.2.2.2.2.1
  · rw [f40_0]; exact h.2.2.2.2.2.2.2.2.1
  · rw [f41_0]; exact h.2.2.2.2.2.2.2.2.2.1
  · rw [f42_0]; exact h.2.2.2.2.2.2.2.2.2.2.1
  · rw [f61_2, a 62 (by decide), a 63 (by decide)]; exact h.2.2.2.2.2.2.2.2.2.2.2.1
  · rw [f66_0, f66_1]; exact h.2.2.2.2.2.2.2.2.2.2.2.2.1
  · rw [f68_2, a 69 (by decide)]; exact h.2.2.2.2.2.2.2.2.2.2.2.2.2
theorem IX.kL0 {cs : List Nat} {fs : List (Nat × Nat)} {σ τ : Sg} (h : IX σ.1) (hF : Fr cs fs σ τ) (hN : ((τ.1 40 0).toInt ≤ 20)) (hc : ∀ x ∈ [3, 4, 5, 7, 10, 11, 12, 16, 17, 18, 20, 23, 24, 25, 43, 44, 45, 46, 47, 48, 62, 63, 69], x ∉ cs ∧ ∀ q ∈ fs, q.1 ≠ x) (ho : ∀ x ∈ [1, 14, 31, 32, 33, 34, 35, 36, 41, 42, 61, 66, 68], x ∉ cs) (hk : ∀ q ∈ [(1, 0), (1, 1), (1, 2), (14, 0), (14, 1), (14, 2), (31, 0), (31, 1), (32, 0), (32, 1), (33, 0), (33, 1), (34, 0), (34, 1), (35, 0), (35, 1), (36, 0), (36, 1), (41, 0), (42, 0), (61, 2), (66, 0), (66, 1), (68, 2)], q ∉ fs) : IX τ.1 := by
  have a : ∀ i ∈ [3, 4, 5, 7, 10, 11, 12, 16, 17, 18, 20, 23, 24, 25, 43, 44, 45, 46, 47, 48, 62, 63, 69], τ.1 i = σ.1 i := fun i hi => hF.a i (hc i hi).1 (hc i hi).2
  have f : ∀ q ∈ [(1, 0), (1, 1), (1, 2), (14, 0), (14, 1), (14, 2), (31, 0), (31, 1), (32, 0), (32, 1), (33, 0), (33, 1), (34, 0), (34, 1), (35, 0), (35, 1), (36, 0), (36, 1), (41, 0), (42, 0), (61, 2), (66, 0), (66, 1), (68, 2)], τ.1 q.1 q.2 = σ.1 q.1 q.2 := fun q hq => hF.f q.1 q.2 (ho q.1 (by revert hq; revert q; decide)) (hk q hq)
  have f1_0 : τ.1 1 0 = σ.1 1 0 := f (1, 0) (by decide)
  have f1_1 : τ.1 1 1 = σ.1 1 1 := f (1, 1) (by decide)
  have f1_2 : τ.1 1 2 = σ.1 1 2 := f (1, 2) (by decide)
  have f14_0 : τ.1 14 0 = σ.1 14 0 := f (14, 0) (by decide)
  have f14_1 : τ.1 14 1 = σ.1 14 1 := f (14, 1) (by decide)
  have f14_2 : τ.1 14 2 = σ.1 14 2 := f (14, 2) (by decide)
  have f31_0 : τ.1 31 0 = σ.1 31 0 := f (31, 0) (by decide)
  have f31_1 : τ.1 31 1 = σ.1 31 1 := f (31, 1) (by decide)
  have f32_0 : τ.1 32 0 = σ.1 32 0 := f (32, 0) (by decide)
  have f32_1 : τ.1 32 1 = σ.1 32 1 := f (32, 1) (by decide)
  have f33_0 : τ.1 33 0 = σ.1 33 0 := f (33, 0) (by decide)
  have f33_1 : τ.1 33 1 = σ.1 33 1 := f (33, 1) (by decide)
  have f34_0 : τ.1 34 0 = σ.1 34 0 := f (34, 0) (by decide)
  have f34_1 : τ.1 34 1 = σ.1 34 1 := f (34, 1) (by decide)
  have f35_0 : τ.1 35 0 = σ.1 35 0 := f (35, 0) (by decide)
  have f35_1 : τ.1 35 1 = σ.1 35 1 := f (35, 1) (by decide)
  have f36_0 : τ.1 36 0 = σ.1 36 0 := f (36, 0) (by decide)
  have f36_1 : τ.1 36 1 = σ.1 36 1 := f (36, 1) (by decide)
  have f41_0 : τ.1 41 0 = σ.1 41 0 := f (41, 0) (by decide)
  have f42_0 : τ.1 42 0 = σ.1 42 0 := f (42, 0) (by decide)
  have f61_2 : τ.1 61 2 = σ.1 61 2 := f (61, 2) (by decide)
  have f66_0 : τ.1 66 0 = σ.1 66 0 := f (66, 0) (by decide)
  have f66_1 : τ.1 66 1 = σ.1 66 1 := f (66, 1) (by decide)
  have f68_2 : τ.1 68 2 = σ.1 68 2 := f (68, 2) (by decide)
  refine ⟨?_, ?_, ?_, ?_, ?_, ?_, ?_, ?_, hN, ?_, ?_, ?_, ?_, ?_⟩
  · rw [f1_0, f1_1, f1_2, a 3 (by decide), a 4 (by decide), a 5 (by decide), a 7 (by decide), a 10 (by decide), a 11 (by decide), a 12 (by decide)]; exact h.1
  · rw [f14_0, f14_1, f14_2, a 16 (by decide), a 17 (by decide), a 18 (by decide), a 20 (by decide), a 23 (by decide), a 24 (by decide), a 25 (by decide)]; exact h.2.1
  · unfold CN; rw [f31_0, f31_1, a 43 (by decide)]; exact h.2.2.1
  · unfold CN; rw [f32_0, f32_1, a 44 (by decide)]; exact h.2.2.2.1
  · unfold CN; rw [f33_0, f33_1, a 45 (by decide)]; exact h.2.2.2.2.1
  · unfold CN; rw [f34_0, f34_1, a 46 (by decide)]; exact h.2.2.2.2.2.1
  · unfold CN; rw [f35_0, f35_1, a 47 (by decide)]; exact h.2.2.2.2.2.2.1
  · unfold CN; rw [f36_0, f36_1, a 48 (by decide)]; exact h.2.2.2.2.2.2.2.1
  · rw [f41_0]; exact h.2.2.2.2.2.2.2.2.2.1
  · rw [f42_0]; exact h.2.2.2.2.2.2.2.2.2.2.1
  · rw [f61_2, a 62 (by decide), a 63 (by decide)]; exact h.2.2.2.2.2.2.2.2.2.2.2.1
  · rw [f66_0, f66_1]; exact h.2.2.2.2.2.2.2.2.2.2.2.2.1
  · rw [f68_2, a 69 (by decide)]; exact h.2.2.2.2.2.2.2.2.2.2.2.2.2
theorem IX.kL1 {cs : List Nat} {fs : List (Nat × Nat)} {σ τ : Sg} (h : IX σ.1) (hF : Fr cs fs σ τ) (hN : ((τ.1 41 0).toInt ≤ 20)) (hc : ∀ x ∈ [3, 4, 5, 7, 10, 11, 12, 16, 17, 18, 20, 23, 24, 25, 43, 44, 45, 46, 47, 48, 62, 63, 69], x ∉ cs ∧ ∀ q ∈ fs, q.1 ≠ x) (ho : ∀ x ∈ [1, 14, 31, 32, 33, 34, 35, 36, 40, 42, 61, 66, 68], x ∉ cs) (hk : ∀ q ∈ [(1, 0), (1, 1), (1, 2), (14, 0), (14, 1), (14, 2), (31, 0), (31, 1), (32, 0), (32, 1), (33, 0), (33, 1), (34, 0), (34, 1), (35, 0), (35, 1), (36, 0), (36, 1), (40, 0), (42, 0), (61, 2), (66, 0), (66, 1), (68, 2)], q ∉ fs) : IX τ.1 := by
  have a : ∀ i ∈ [3, 4, 5, 7, 10, 11, 12, 16, 17, 18, 20, 23, 24, 25, 43, 44, 45, 46, 47, 48, 62, 63, 69], τ.1 i = σ.1 i := fun i hi => hF.a i (hc i hi).1 (hc i hi).2
  have f : ∀ q ∈ [(1, 0), (1, 1), (1, 2), (14, 0), (14, 1), (14, 2), (31, 0), (31, 1), (32, 0), (32, 1), (33, 0), (33, 1), (34, 0), (34, 1), (35, 0), (35, 1), (36, 0), (36, 1), (40, 0), (42, 0), (61, 2), (66, 0), (66, 1), (68, 2)], τ.1 q.1 q.2 = σ.1 q.1 q.2 := fun q hq => hF.f q.1 q.2 (ho q.1 (by revert hq; revert q; decide)) (hk q hq)
  have f1_0 : τ.1 1 0 = σ.1 1 0 := f (1, 0) (by decide)
  have f1_1 : τ.1 1 1 = σ.1 1 1 := f (1, 1) (by decide)
  have f1_2 : τ.1 1 2 = σ.1 1 2 := f (1, 2) (by decide)
  have f14_0 : τ.1 14 0 = σ.1 14 0 := f (14, 0) (by decide)
  have f14_1 : τ.1 14 1 = σ.1 14 1 := f (14, 1) (by decide)
  have f14_2 : τ.1 14 2 = σ.1 14 2 := f (14, 2) (by decide)
  have f31_0 : τ.1 31 0 = σ.1 31 0 := f (31, 0) (by decide)
  have f31_1 : τ.1 31 1 = σ.1 31 1 := f (31, 1) (by decide)
  have f32_0 : τ.1 32 0 = σ.1 32 0 := f (32, 0) (by decide)
  have f32_1 : τ.1 32 1 = σ.1 32 1 := f (32, 1) (by decide)
  have f33_0 : τ.1 33 0 = σ.1 33 0 := f (33, 0) (by decide)
  have f33_1 : τ.1 33 1 = σ.1 33 1 := f (33, 1) (by decide)
  have f34_0 : τ.1 34 0 = σ.1 34 0 := f (34, 0) (by decide)
  have f34_1 : τ.1 34 1 = σ.1 34 1 := f (34, 1) (by decide)
  have f35_0 : τ.1 35 0 = σ.1 35 0 := f (35, 0) (by decide)
  have f35_1 : τ.1 35 1 = σ.1 35 1 := f (35, 1) (by decide)
  have f36_0 : τ.1 36 0 = σ.1 36 0 := f (36, 0) (by decide)
  have f36_1 : τ.1 36 1 = σ.1 36 1 := f (36, 1) (by decide)
  have f40_0 : τ.1 40 0 = σ.1 40 0 := f (40, 0) (by decide)
  have f42_0 : τ.1 42 0 = σ.1 42 0 := f (42, 0) (by decide)
  have f61_2 : τ.1 61 2 = σ.1 61 2 := f (61, 2) (by decide)
  have f66_0 : τ.1 66 0 = σ.1 66 0 := f (66, 0) (by decide)
  have f66_1 : τ.1 66 1 = σ.1 66 1 := f (66, 1) (by decide)
  have f68_2 : τ.1 68 2 = σ.1 68 2 := f (68, 2) (by decide)
  refine ⟨?_, ?_, ?_, ?_, ?_, ?_, ?_, ?_, ?_, hN, ?_, ?_, ?_, ?_⟩
  · rw [f1_0, f1_1, f1_2, a 3 (by decide), a 4 (by decide), a 5 (by decide), a 7 (by decide), a 10 (by decide), a 11 (by decide), a 12 (by decide)]; exact h.1
  · rw [f14_0, f14_1, f14_2, a 16 (by decide), a 17 (by decide), a 18 (by decide), a 20 (by decide), a 23 (by decide), a 24 (by decide), a 25 (by decide)]; exact h.2.1
  · unfold CN; rw [f31_0, f31_1, a 43 (by decide)]; exact h.2.2.1
  · unfold CN; rw [f32_0, f32_1, a 44 (by decide)]; exact h.2.2.2.1
  · unfold CN; rw [f33_0, f33_1, a 45 (by decide)]; exact h.2.2.2.2.1
  · unfold CN; rw [f34_0, f34_1, a 46 (by decide)]; exact h.2.2.2.2.2.1
  · unfold CN; rw [f35_0, f35_1, a 47 (by decide)]; exact h.2.2.2.2.2.2.1
  · unfold CN; rw [f36_0, f36_1, a 48 (by decide)]; exact h.2.2.2.2.2.2.2.1
  · rw [f40_0]; exact h.2.2.2.2.2.2.2.2.1
  · rw [f42_0]; exact h.2.2.2.2.2.2.2.2.2.2.1
  · rw [f61_2, a 62 (by decide), a 63 (by decide)]; exact h.2.2.2.2.2.2.2.2.2.2.2.1
  · rw [f66_0, f66_1]; exact h.2.2.2.2.2.2.2.2.2.2.2.2.1
  · rw [f68_2, a 69 (by decide)]; exact h.2.2.2.2.2.2.2.2.2.2.2.2.2
theorem IX.kL2 {cs : List Nat} {fs : List (Nat × Nat)} {σ τ : Sg} (h : IX σ.1) (hF : Fr cs fs σ τ) (hN : ((τ.1 42 0).toInt ≤ 20)) (hc : ∀ x ∈ [3, 4, 5, 7, 10, 11, 12, 16, 17, 18, 20, 23, 24, 25, 43, 44, 45, 46, 47, 48, 62, 63, 69], x ∉ cs ∧ ∀ q ∈ fs, q.1 ≠ x) (ho : ∀ x ∈ [1, 14, 31, 32, 33, 34, 35, 36, 40, 41, 61, 66, 68], x ∉ cs) (hk : ∀ q ∈ [(1, 0), (1, 1), (1, 2), (14, 0), (14, 1), (14, 2), (31, 0), (31, 1), (32, 0), (32, 1), (33, 0), (33, 1), (34, 0), (34, 1), (35, 0), (35, 1), (36, 0), (36, 1), (40, 0), (41, 0), (61, 2), (66, 0), (66, 1), (68, 2)], q ∉ fs) : IX τ.1 := by
  have a : ∀ i ∈ [3, 4, 5, 7, 10, 11, 12, 16, 17, 18, 20, 23, 24, 25, 43, 44, 45, 46, 47, 48, 62, 63, 69], τ.1 i = σ.1 i := fun i hi => hF.a i (hc i hi).1 (hc i hi).2
  have f : ∀ q ∈ [(1, 0), (1, 1), (1, 2), (14, 0), (14, 1), (14, 2), (31, 0), (31, 1), (32, 0), (32, 1), (33, 0), (33, 1), (34, 0), (34, 1), (35, 0), (35, 1), (36, 0), (36, 1), (40, 0), (41, 0), (61, 2), (66, 0), (66, 1), (68, 2)], τ.1 q.1 q.2 = σ.1 q.1 q.2 := fun q hq => hF.f q.1 q.2 (ho q.1 (by revert hq; revert q; decide)) (hk q hq)
  have f1_0 : τ.1 1 0 = σ.1 1 0 := f (1, 0) (by decide)
  have f1_1 : τ.1 1 1 = σ.1 1 1 := f (1, 1) (by decide)
  have f1_2 : τ.1 1 2 = σ.1 1 2 := f (1, 2) (by decide)
  have f14_0 : τ.1 14 0 = σ.1 14 0 := f (14, 0) (by decide)
  have f14_1 : τ.1 14 1 = σ.1 14 1 := f (14, 1) (by decide)
  have f14_2 : τ.1 14 2 = σ.1 14 2 := f (14, 2) (by decide)
  have f31_0 : τ.1 31 0 = σ.1 31 0 := f (31, 0) (by decide)
  have f31_1 : τ.1 31 1 = σ.1 31 1 := f (31, 1) (by decide)
  have f32_0 : τ.1 32 0 = σ.1 32 0 := f (32, 0) (by decide)
  have f32_1 : τ.1 32 1 = σ.1 32 1 := f (32, 1) (by decide)
  have f33_0 : τ.1 33 0 = σ.1 33 0 := f (33, 0) (by decide)
  have f33_1 : τ.1 33 1 = σ.1 33 1 := f (33, 1) (by decide)
  have f34_0 : τ.1 34 0 = σ.1 34 0 := f (34, 0) (by decide)
  have f34_1 : τ.1 34 1 = σ.1 34 1 := f (34, 1) (by decide)
  have f35_0 : τ.1 35 0 = σ.1 35 0 := f (35, 0) (by decide)
  have f35_1 : τ.1 35 1 = σ.1 35 1 := f (35, 1) (by decide)
  have f36_0 : τ.1 36 0 = σ.1 36 0 := f (36, 0) (by decide)
  have f36_1 : τ.1 36 1 = σ.1 36 1 := f (36, 1) (by decide)
  have f40_0 : τ.1 40 0 = σ.1 40 0 := f (40, 0) (by decide)
  have f41_0 : τ.1 41 0 = σ.1 41 0 := f (41, 0) (by decide)
  have f61_2 : τ.1 61 2 = σ.1 61 2 := f (61, 2) (by decide)
  have f66_0 : τ.1 66 0 = σ.1 66 0 := f (66, 0) (by decide)
  have f66_1 : τ.1 66 1 = σ.1 66 1 := f (66, 1) (by decide)
  have f68_2 : τ.1 68 2 = σ.1 68 2 := f (68, 2) (by decide)
  refine ⟨?_, ?_, ?_, ?_, ?_, ?_, ?_, ?_, ?_, ?_, hN, ?_, ?_, ?_⟩
  · rw [f1_0, f1_1, f1_2, a 3 (by decide), a 4 (by decide), a 5 (by decide), a 7 (by decide), a 10 (by decide), a 11 (by decide), a 12 (by decide)]; exact h.1
  · rw [f14_0, f14_1, f14_2, a 16 (by decide), a 17 (by decide), a 18 (by decide), a 20 (by decide), a 23 (by decide), a 24 (by decide), a 25 (by decide)]; exact h.2.1
  · unfold CN; rw [f31_0, f31_1, a 43 (by decide)]; exact h.2.2.1
  · unfold CN; rw [f32_0, f32_1, a 44 (by decide)]; exact h.2.2.2.1
  · unfold CN; rw [f33_0, f33_1, a 45 (by decide)]; exact h.2.2.2.2.1
  · unfold CN; rw [f34_0, f34_1, a 46 (by decide)]; exact h.2.2.2.2.2.1
  · unfold CN; rw [f35_0, f35_1, a 47 (by decide)]; exact h.2.2.2.2.2.2.1
  · unfold CN; rw [f36_0, f36_1, a 48 (by decide)]; exact h.2.2.2.2.2.2.2.1
  · rw [f40_0]; exact h.2.2.2.2.2.2.2.2.1
  · rw [f41_0]; exact h.2.2.2.2.2.2.2.2.2.1
  · rw [f61_2, a 62 (by decide), a 63 (by decide)]; exact h.2.2.2.2.2.2.2.2.2.2.2.1
  · rw [f66_0, f66_1]; exact h.2.2.2.2.2.2.2.2.2.2.2.2.1
  · rw [f68_2, a 69 (by decide)]; exact h.2.2.2.2.2.2.2.2.2.2.2.2.2
theorem IX.kLT {cs : List Nat} {fs : List (Nat × Nat)} {σ τ : Sg} (h : IX σ.1) (hF : Fr cs fs σ τ) (hN : (0 ≤ (τ.1 61 2).toInt ∧ (τ.1 61 2).toInt ≤ 1296) ∧ (∀ j, GR (τ.1 62 j)) ∧ (∀ j, -1 ≤ (τ.1 63 j).toInt ∧ (τ.1 63 j).toInt ≤ 1295)) (hc : ∀ x ∈ [3, 4, 5, 7, 10, 11, 12, 16, 17, 18, 20, 23, 24, 25, 43, 44, 45, 46, 47, 48, 69], x ∉ cs ∧ ∀ q ∈ fs, q.1 ≠ x) (ho : ∀ x ∈ [1, 14, 31, 32, 33, 34, 35, 36, 40, 41, 42, 66, 68], x ∉ cs) (hk : ∀ q ∈ [(1, 0), (1, 1), (1, 2), (14, 0), (14, 1), (14, 2), (31, 0), (31, 1), (32, 0), (32, 1), (33, 0), (33, 1), (34, 0), (34, 1), (35, 0), (35, 1), (36, 0), (36, 1), (40, 0), (41, 0), (42, 0), (66, 0), (66, 1), (68, 2)], q ∉ fs) : IX τ.1 := by
  have a : ∀ i ∈ [3, 4, 5, 7, 10, 11, 12, 16, 17, 18, 20, 23, 24, 25, 43, 44, 45, 46, 47, 48, 69], τ.1 i = σ.1 i := fun i hi => hF.a i (hc i hi).1 (hc i hi).2
  have f : ∀ q ∈ [(1, 0), (1, 1), (1, 2), (14, 0), (14, 1), (14, 2), (31, 0), (31, 1), (32, 0), (32, 1), (33, 0), (33, 1), (34, 0), (34, 1), (35, 0), (35, 1), (36, 0), (36, 1), (40, 0), (41, 0), (42, 0), (66, 0), (66, 1), (68, 2)], τ.1 q.1 q.2 = σ.1 q.1 q.2 := fun q hq => hF.f q.1 q.2 (ho q.1 (by revert hq; revert q; decide)) (hk q hq)
  have f1_0 : τ.1 1 0 = σ.1 1 0 := f (1, 0) (by decide)
  have f1_1 : τ.1 1 1 = σ.1 1 1 := f (1, 1) (by decide)
  have f1_2 : τ.1 1 2 = σ.1 1 2 := f (1, 2) (by decide)
  have f14_0 : τ.1 14 0 = σ.1 14 0 := f (14, 0) (by decide)
  have f14_1 : τ.1 14 1 = σ.1 14 1 := f (14, 1) (by decide)
  have f14_2 : τ.1 14 2 = σ.1 14 2 := f (14, 2) (by decide)
  have f31_0 : τ.1 31 0 = σ.1 31 0 := f (31, 0) (by decide)
  have f31_1 : τ.1 31 1 = σ.1 31 1 := f (31, 1) (by decide)
  have f32_0 : τ.1 32 0 = σ.1 32 0 := f (32, 0) (by decide)
  have f32_1 : τ.1 32 1 = σ.1 32 1 := f (32, 1) (by decide)
  have f33_0 : τ.1 33 0 = σ.1 33 0 := f (33, 0) (by decide)
  have f33_1 : τ.1 33 1 = σ.1 33 1 := f (33, 1) (by decide)
  have f34_0 : τ.1 34 0 = σ.1 34 0 := f (34, 0) (by decide)
  have f34_1 : τ.1 34 1 = σ.1 34 1 := f (34, 1) (by decide)
  have f35_0 : τ.1 35 0 = σ.1 35 0 := f (35, 0) (by decide)
  have f35_1 : τ.1 35 1 = σ.1 35 1 := f (35, 1) (by decide)
  have f36_0 : τ.1 36 0 = σ.1 36 0 := f (36, 0) (by decide)
  have f36_1 : τ.1 36 1 = σ.1 36 1 := f (36, 1) (by decide)
  have f40_0 : τ.1 40 0 = σ.1 40 0 := f (40, 0) (by decide)
  have f41_0 : τ.1 41 0 = σ.1 41 0 := f (41, 0) (by decide)
  have f42_0 : τ.1 42 0 = σ.1 42 0 := f (42, 0) (by decide)
  have f66_0 : τ.1 66 0 = σ.1 66 0 := f (66, 0) (by decide)
  have f66_1 : τ.1 66 1 = σ.1 66 1 := f (66, 1) (by decide)
  have f68_2 : τ.1 68 2 = σ.1 68 2 := f (68, 2) (by decide)
  refine ⟨?_, ?_, ?_, ?_, ?_, ?_, ?_, ?_, ?_, ?_, ?_, hN, ?_, ?_⟩
  · rw [f1_0, f1_1, f1_2, a 3 (by decide), a 4 (by decide), a 5 (by decide), a 7 (by decide), a 10 (by decide), a 11 (by decide), a 12 (by decide)]; exact h.1
  · rw [f14_0, f14_1, f14_2, a 16 (by decide), a 17 (by decide), a 18 (by decide), a 20 (by decide), a 23 (by decide), a 24 (by decide), a 25 (by decide)]; exact h.2.1
  · unfold CN; rw [f31_0, f31_1, a 43 (by decide)]; exact h.2.2.1
  · unfold CN; rw [f32_0, f32_1, a 44 (by decide)]; exact h.2.2.2.1
  · unfold CN; rw [f33_0, f33_1, a 45 (by decide)]; exact h.2.2.2.2.1
  · unfold CN; rw [f34_0, f34_1, a 46 (by decide)]; exact h.2.2.2.2.2.1
  · unfold CN; rw [f35_0, f35_1, a 47 (by decide)]; exact h.2.2.2.2.2.2.1
  · unfold CN; rw [f36_0, f36_1, a 48 (by decide)]; exact h.2.2.2.2.2.2.2.1
  · rw [f40_0]; exact h.2.2.2.2.2.2.2.2.1
  · rw [f41_0]; exact h.2.2.2.2.2.2.2.2.2.1
  · rw [f42_0]; exact h.2.2.2.2.2.2.2.2.2.2.1
  · rw [f66_0, f66_1]; exact h.2.2.2.2.2.2.2.2.2.2.2.2.1
  · rw [f68_2, a 69 (by decide)]; exact h.2.2.2.2.2.2.2.2.2.2.2.2.2
theorem IX.kTP {cs : List Nat} {fs : List (Nat × Nat)} {σ τ : Sg} (h : IX σ.1) (hF : Fr cs fs σ τ) (hN : (0 ≤ (τ.1 66 0).toInt ∧ (τ.1 66 0).toInt ≤ 60) ∧ (0 ≤ (τ.1 66 1).toInt ∧ (τ.1 66 1).toInt ≤ 60)) (hc : ∀ x ∈ [3, 4, 5, 7, 10, 11, 12, 16, 17, 18, 20, 23, 24, 25, 43, 44, 45, 46, 47, 48, 62, 63, 69], x ∉ cs ∧ ∀ q ∈ fs, q.1 ≠ x) (ho : ∀ x ∈ [1, 14, 31, 32, 33, 34, 35, 36, 40, 41, 42, 61, 68], x ∉ cs) (hk : ∀ q ∈ [(1, 0), (1, 1), (1, 2), (14, 0), (14, 1), (14, 2), (31, 0), (31, 1), (32, 0), (32, 1), (33, 0), (33, 1), (34, 0), (34, 1), (35, 0), (35, 1), (36, 0), (36, 1), (40, 0), (41, 0), (42, 0), (61, 2), (68, 2)], q ∉ fs) : IX τ.1 := by
  have a : ∀ i ∈ [3, 4, 5, 7, 10, 11, 12, 16, 17, 18, 20, 23, 24, 25, 43, 44, 45, 46, 47, 48, 62, 63, 69], τ.1 i = σ.1 i := fun i hi => hF.a i (hc i hi).1 (hc i hi).2
  have f : ∀ q ∈ [(1, 0), (1, 1), (1, 2), (14, 0), (14, 1), (14, 2), (31, 0), (31, 1), (32, 0), (32, 1), (33, 0), (33, 1), (34, 0), (34, 1), (35, 0), (35, 1), (36, 0), (36, 1), (40, 0), (41, 0), (42, 0), (61, 2), (68, 2)], τ.1 q.1 q.2 = σ.1 q.1 q.2 := fun q hq => hF.f q.1 q.2 (ho q.1 (by revert hq; revert q; decide)) (hk q hq)
  have f1_0 : τ.1 1 0 = σ.1 1 0 := f (1, 0) (by decide)
  have f1_1 : τ.1 1 1 = σ.1 1 1 := f (1, 1) (by decide)
  have f1_2 : τ.1 1 2 = σ.1 1 2 := f (1, 2) (by decide)
  have f14_0 : τ.1 14 0 = σ.1 14 0 := f (14, 0) (by decide)
  have f14_1 : τ.1 14 1 = σ.1 14 1 := f (14, 1) (by decide)
  have f14_2 : τ.1 14 2 = σ.1 14 2 := f (14, 2) (by decide)
  have f31_0 : τ.1 31 0 = σ.1 31 0 := f (31, 0) (by decide)
  have f31_1 : τ.1 31 1 = σ.1 31 1 := f (31, 1) (by decide)
  have f32_0 : τ.1 32 0 = σ.1 32 0 := f (32, 0) (by decide)
  have f32_1 : τ.1 32 1 = σ.1 32 1 := f (32, 1) (by decide)
  have f33_0 : τ.1 33 0 = σ.1 33 0 := f (33, 0) (by decide)
  have f33_1 : τ.1 33 1 = σ.1 33 1 := f (33, 1) (by decide)
  have f34_0 : τ.1 34 0 = σ.1 34 0 := f (34, 0) (by decide)
  have f34_1 : τ.1 34 1 = σ.1 34 1 := f (34, 1) (by decide)
  have f35_0 : τ.1 35 0 = σ.1 35 0 := f (35, 0) (by decide)
  have f35_1 : τ.1 35 1 = σ.1 35 1 := f (35, 1) (by decide)
  have f36_0 : τ.1 36 0 = σ.1 36 0 := f (36, 0) (by decide)
  have f36_1 : τ.1 36 1 = σ.1 36 1 := f (36, 1) (by decide)
  have f40_0 : τ.1 40 0 = σ.1 40 0 := f (40, 0) (by decide)
  have f41_0 : τ.1 41 0 = σ.1 41 0 := f (41, 0) (by decide)
  have f42_0 : τ.1 42 0 = σ.1 42 0 := f (42, 0) (by decide)
  have f61_2 : τ.1 61 2 = σ.1 61 2 := f (61, 2) (by decide)
  have f68_2 : τ.1 68 2 = σ.1 68 2 := f (68, 2) (by decide)
  refine ⟨?_, ?_, ?_, ?_, ?_, ?_, ?_, ?_, ?_, ?_, ?_, ?_, hN, ?_⟩
  · rw [f1_0, f1_1, f1_2, a 3 (by decide), a 4 (by decide), a 5 (by decide), a 7 (by decide), a 10 (by decide), a 11 (by decide), a 12 (by decide)]; exact h.1
  · rw [f14_0, f14_1, f14_2, a 16 (by decide), a 17 (by decide), a 18 (by decide), a 20 (by decide), a 23 (by decide), a 24 (by decide), a 25 (by decide)]; exact h.2.1
  · unfold CN; rw [f31_0, f31_1, a 43 (by decide)]; exact h.2.2.1
  · unfold CN; rw [f32_0, f32_1, a 44 (by decide)]; exact h.2.2.2.1
  · unfold CN; rw [f33_0, f33_1, a 45 (by decide)]; exact h.2.2.2.2.1
  · unfold CN; rw [f34_0, f34_1, a 46 (by decide)]; exact h.2.2.2.2.2.1
  · unfold CN; rw [f35_0, f35_1, a 47 (by decide)]; exact h.2.2.2.2.2.2.1
  · unfold CN; rw [f36_0, f36_1, a 48 (by decide)]; exact h.2.2.2.2.2.2.2.1
  · rw [f40_0]; exact h.2.2.2.2.2.2.2.2.1
  · rw [f41_0]; exact h.2.2.2.2.2.2.2.2.2.1
  · rw [f42_0]; exact h.2.2.2.2.2.2.2.2.2.2.1
  · rw [f61_2, a 62 (by decide), a 63 (by decide)]; exact h.2.2.2.2.2.2.2.2.2.2.2.1
  · rw [f68_2, a 69 (by decide)]; exact h.2.2.2.2.2.2.2.2.2.2.2.2.2
theorem IX.kCR {cs : List Nat} {fs : List (Nat × Nat)} {σ τ : Sg} (h : IX σ.1) (hF : Fr cs fs σ τ) (hN : (0 ≤ (τ.1 68 2).toInt ∧ (τ.1 68 2).toInt ≤ 60) ∧ PG (τ.1 69)) (hc : ∀ x ∈ [3, 4, 5, 7, 10, 11, 12, 16, 17, 18, 20, 23, 24, 25, 43, 44, 45, 46, 47, 48, 62, 63], x ∉ cs ∧ ∀ q ∈ fs, q.1 ≠ x) (ho : ∀ x ∈ [1, 14, 31, 32, 33, 34, 35, 36, 40, 41, 42, 61, 66], x ∉ cs) (hk : ∀ q ∈ [(1, 0), (1, 1), (1, 2), (14, 0), (14, 1), (14, 2), (31, 0), (31, 1), (32, 0), (32, 1), (33, 0), (33, 1), (34, 0), (34, 1), (35, 0), (35, 1), (36, 0), (36, 1), (40, 0), (41, 0), (42, 0), (61, 2), (66, 0), (66, 1)], q ∉ fs) : IX τ.1 := by
  have a : ∀ i ∈ [3, 4, 5, 7, 10, 11, 12, 16, 17, 18, 20, 23, 24, 25, 43, 44, 45, 46, 47, 48, 62, 63], τ.1 i = σ.1 i := fun i hi => hF.a i (hc i hi).1 (hc i hi).2
  have f : ∀ q ∈ [(1, 0), (1, 1), (1, 2), (14, 0), (14, 1), (14, 2), (31, 0), (31, 1), (32, 0), (32, 1), (33, 0), (33, 1), (34, 0), (34, 1), (35, 0), (35, 1), (36, 0), (36, 1), (40, 0), (41, 0), (42, 0), (61, 2), (66, 0), (66, 1)], τ.1 q.1 q.2 = σ.1 q.1 q.2 := fun q hq => hF.f q.1 q.2 (ho q.1 (by revert hq; revert q; decide)) (hk q hq)
  have f1_0 : τ.1 1 0 = σ.1 1 0 := f (1, 0) (by decide)
  have f1_1 : τ.1 1 1 = σ.1 1 1 := f (1, 1) (by decide)
  have f1_2 : τ.1 1 2 = σ.1 1 2 := f (1, 2) (by decide)
  have f14_0 : τ.1 14 0 = σ.1 14 0 := f (14, 0) (by decide)
  have f14_1 : τ.1 14 1 = σ.1 14 1 := f (14, 1) (by decide)
  have f14_2 : τ.1 14 2 = σ.1 14 2 := f (14, 2) (by decide)
  have f31_0 : τ.1 31 0 = σ.1 31 0 := f (31, 0) (by decide)
  have f31_1 : τ.1 31 1 = σ.1 31 1 := f (31, 1) (by decide)
  have f32_0 : τ.1 32 0 = σ.1 32 0 := f (32, 0) (by decide)
  have f32_1 : τ.1 32 1 = σ.1 32 1 := f (32, 1) (by decide)
  have f33_0 : τ.1 33 0 = σ.1 33 0 := f (33, 0) (by decide)
  have f33_1 : τ.1 33 1 = σ.1 33 1 := f (33, 1) (by decide)
  have f34_0 : τ.1 34 0 = σ.1 34 0 := f (34, 0) (by decide)
  have f34_1 : τ.1 34 1 = σ.1 34 1 := f (34, 1) (by decide)
  have f35_0 : τ.1 35 0 = σ.1 35 0 := f (35, 0) (by decide)
  have f35_1 : τ.1 35 1 = σ.1 35 1 := f (35, 1) (by decide)
  have f36_0 : τ.1 36 0 = σ.1 36 0 := f (36, 0) (by decide)
  have f36_1 : τ.1 36 1 = σ.1 36 1 := f (36, 1) (by decide)
  have f40_0 : τ.1 40 0 = σ.1 40 0 := f (40, 0) (by decide)
  have f41_0 : τ.1 41 0 = σ.1 41 0 := f (41, 0) (by decide)
  have f42_0 : τ.1 42 0 = σ.1 42 0 := f (42, 0) (by decide)
  have f61_2 : τ.1 61 2 = σ.1 61 2 := f (61, 2) (by decide)
  have f66_0 : τ.1 66 0 = σ.1 66 0 := f (66, 0) (by decide)
  have f66_1 : τ.1 66 1 = σ.1 66 1 := f (66, 1) (by decide)
  refine ⟨?_, ?_, ?_, ?_, ?_, ?_, ?_, ?_, ?_, ?_, ?_, ?_, ?_, hN⟩
  · rw [f1_0, f1_1, f1_2, a 3 (by decide), a 4 (by decide), a 5 (by decide), a 7 (by decide), a 10 (by decide), a 11 (by decide), a 12 (by decide)]; exact h.1
  · rw [f14_0, f14_1, f14_2, a 16 (by decide), a 17 (by decide), a 18 (by decide), a 20 (by decide), a 23 (by decide), a 24 (by decide), a 25 (by decide)]; exact h.2.1
  · unfold CN; rw [f31_0, f31_1, a 43 (by decide)]; exact h.2.2.1
  · unfold CN; rw [f32_0, f32_1, a 44 (by decide)]; exact h.2.2.2.1
  · unfold CN; rw [f33_0, f33_1, a 45 (by decide)]; exact h.2.2.2.2.1
  · unfold CN; rw [f34_0, f34_1, a 46 (by decide)]; exact h.2.2.2.2.2.1
  · unfold CN; rw [f35_0, f35_1, a 47 (by decide)]; exact h.2.2.2.2.2.2.1
  · unfold CN; rw [f36_0, f36_1, a 48 (by decide)]; exact h.2.2.2.2.2.2.2.1
  · rw [f40_0]; exact h.2.2.2.2.2.2.2.2.1
  · rw [f41_0]; exact h.2.2.2.2.2.2.2.2.2.1
  · rw [f42_0]; exact h.2.2.2.2.2.2.2.2.2.2.1
  · rw [f61_2, a 62 (by decide), a 63 (by decide)]; exact h.2.2.2.2.2.2.2.2.2.2.2.1
  · rw [f66_0, f66_1]; exact h.2.2.2.2.2.2.2.2.2.2.2.2.1
theorem s_lookup {E : Ev} {ad : Nat → Nat} {l0 : Launch} {R0 : Room} {n0 : Nat} {cc : ByteArray} {own : String} {pc : Nat} {lv : List (Option Value)} {st : List Value} {σ : Sg} (C : Cx E l0 R0 n0 cc own) {dflt off : Int} {ps : Array (Int × Int)} {len tgt : Nat} {x : Int32} (d : decode cc pc = .ok (.lookupswitch dflt ps, len)) (hp : (ps.toList.zip (ps.toList.drop 1)).all (fun (a, next) => a.1 < next.1) = true) (ho : Op.lookupswitch.offset ps.toList dflt x.toInt = off) (ht : (pc : Int) + off = (tgt : Int)) (k : WP E ad tgt lv st σ) : WP E ad pc lv (.int x :: st) σ := by
  obtain ⟨p, l, e, R, s, m, args, below, meth, c, cells, slots, Q, D, ck, A, nL⟩ := E
  obtain ⟨rfl, rfl, rfl, hx, hb, hml, hown, hts, hK, hA, hlk, hc1, hc2⟩ := C
  intro H locs ls hP hD hS hl
  exact lv_lookup hx hb d hp ho ht (k H locs ls hP hD hS hl)
theorem sV_sR (σ : Sg) (i k : Nat) (f : Nat → Int32) (v : Int32) : sV (sR σ i f) i k v = sR σ i (upd f k v) := by
  refine Prod.ext (funext fun a => ?_) rfl
  show va_up (va_up σ.1 i f) i (upd (va_up σ.1 i f i) k v) a = va_up σ.1 i (upd f k v) a
  by_cases ha : a = i
  · rw [ha, va_up_self, va_up_self, va_up_self]
  · rw [va_up_ne _ _ ha, va_up_ne _ _ ha, va_up_ne _ _ ha]
theorem sL_sQ (σ : Sg) (i k : Nat) (f : Nat → Int64) (v : Int64) : sL (sQ σ i f) i k v = sQ σ i (vp_updL f k v) := by
  refine Prod.ext rfl (funext fun a => ?_)
  show va_up (va_up σ.2 i f) i (vp_updL (va_up σ.2 i f i) k v) a = va_up σ.2 i (vp_updL f k v) a
  by_cases ha : a = i
  · rw [ha, va_up_self, va_up_self, va_up_self]
  · rw [va_up_ne _ _ ha, va_up_ne _ _ ha, va_up_ne _ _ ha]
theorem sQ_self (τ : Sg) (i : Nat) : sQ τ i (τ.2 i) = τ := by
  refine Prod.ext rfl (funext fun a => ?_)
  show va_up τ.2 i (τ.2 i) a = τ.2 a
  by_cases ha : a = i
  · rw [ha, va_up_self]
  · rw [va_up_ne _ _ ha]
