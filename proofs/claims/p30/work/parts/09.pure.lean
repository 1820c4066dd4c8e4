/-! what changes, and what does not -/
def Fr (cs : List Nat) (fs : List (Nat × Nat)) (σ τ : Sg) : Prop := ∀ i, i ∉ cs → τ.2 i = σ.2 i ∧ ∀ k, (i, k) ∉ fs → τ.1 i k = σ.1 i k
theorem Fr.rf {cs : List Nat} {fs : List (Nat × Nat)} {σ : Sg} : Fr cs fs σ σ := fun _ _ => ⟨rfl, fun _ _ => rfl⟩
theorem Fr.tr {cs : List Nat} {fs : List (Nat × Nat)} {σ τ υ : Sg} (h1 : Fr cs fs σ τ) (h2 : Fr cs fs τ υ) : Fr cs fs σ υ := fun i hi => ⟨(h2 i hi).1.trans (h1 i hi).1, fun k hk => ((h2 i hi).2 k hk).trans ((h1 i hi).2 k hk)⟩
theorem Fr.mo {cs cs' : List Nat} {fs fs' : List (Nat × Nat)} {σ τ : Sg} (h : Fr cs fs σ τ) (hc : ∀ x ∈ cs, x ∈ cs') (hf : ∀ x ∈ fs, x ∈ fs') : Fr cs' fs' σ τ := fun i hi => ⟨(h i (fun q => hi (hc i q))).1, fun k hk => (h i (fun q => hi (hc i q))).2 k (fun q => hk (hf _ q))⟩
theorem Fr.sV {cs : List Nat} {fs : List (Nat × Nat)} {σ τ : Sg} {i k : Nat} {v : Int32} (h : Fr cs fs σ τ) (hm : i ∈ cs ∨ (i, k) ∈ fs) : Fr cs fs σ (sV τ i k v) := by
  intro j hj
  refine ⟨(h j hj).1, fun k' hk' => ?_⟩
  by_cases e : j = i
  · subst e
    rcases hm with hm | hm
    · exact absurd hm hj
    · have hk : k' ≠ k := fun q => hk' (by rw [q]; exact hm)
      show va_up τ.1 j (upd (τ.1 j) k v) j k' = σ.1 j k'
      rw [va_up_self, pk_un hk]
      exact (h j hj).2 k' hk'
  · show va_up τ.1 i (upd (τ.1 i) k v) j k' = σ.1 j k'
    rw [va_up_ne _ _ e]
    exact (h j hj).2 k' hk'
theorem Fr.sR {cs : List Nat} {fs : List (Nat × Nat)} {σ τ : Sg} {i : Nat} {f : Nat → Int32} (h : Fr cs fs σ τ) (hm : i ∈ cs) : Fr cs fs σ (sR τ i f) := by
  intro j hj
  have e : j ≠ i := fun q => hj (by rw [q]; exact hm)
  refine ⟨(h j hj).1, fun k' hk' => ?_⟩
  show va_up τ.1 i f j k' = σ.1 j k'
  rw [va_up_ne _ _ e]
  exact (h j hj).2 k' hk'
theorem Fr.sL {cs : List Nat} {fs : List (Nat × Nat)} {σ τ : Sg} {i k : Nat} {v : Int64} (h : Fr cs fs σ τ) (hm : i ∈ cs) : Fr cs fs σ (sL τ i k v) := by
  intro j hj
  have e : j ≠ i := fun q => hj (by rw [q]; exact hm)
  refine ⟨?_, (h j hj).2⟩
  show va_up τ.2 i _ j = σ.2 j
  rw [va_up_ne _ _ e]
  exact (h j hj).1
theorem Fr.sQ {cs : List Nat} {fs : List (Nat × Nat)} {σ τ : Sg} {i : Nat} {f : Nat → Int64} (h : Fr cs fs σ τ) (hm : i ∈ cs) : Fr cs fs σ (sQ τ i f) := by
  intro j hj
  have e : j ≠ i := fun q => hj (by rw [q]; exact hm)
  refine ⟨?_, (h j hj).2⟩
  show va_up τ.2 i f j = σ.2 j
  rw [va_up_ne _ _ e]
  exact (h j hj).1
theorem Fr.a {cs : List Nat} {fs : List (Nat × Nat)} {σ τ : Sg} (h : Fr cs fs σ τ) (i : Nat) (h1 : i ∉ cs) (h2 : ∀ x ∈ fs, x.1 ≠ i) : τ.1 i = σ.1 i := funext (fun k => (h i h1).2 k (fun hm => h2 _ hm rfl))
theorem Fr.f {cs : List Nat} {fs : List (Nat × Nat)} {σ τ : Sg} (h : Fr cs fs σ τ) (i k : Nat) (h1 : i ∉ cs) (h2 : (i, k) ∉ fs) : τ.1 i k = σ.1 i k := (h i h1).2 k h2
/-- a row that keeps a property of its numbers -/
theorem up_all {f : Nat → Int32} {P : Int32 → Prop} (h : ∀ j, P (f j)) (k : Nat) {v : Int32} (hv : P v) : ∀ j, P (upd f k v j) := by
  intro j
  by_cases e : j = k
  · rw [e, pk_us]; exact hv
  · rw [pk_un e]; exact h j
theorem up_iv {f : Nat → Int32} {lo hi : Int} (h : ∀ j, lo ≤ (f j).toInt ∧ (f j).toInt ≤ hi) (k : Nat) {v : Int32} (hv : lo ≤ v.toInt ∧ v.toInt ≤ hi) : ∀ j, lo ≤ (upd f k v j).toInt ∧ (upd f k v j).toInt ≤ hi := up_all (P := fun x => lo ≤ x.toInt ∧ x.toInt ≤ hi) h k hv
theorem up_z {f : Nat → Int32} {c : Int} {x z v : Int32} (h : ∀ j : Nat, (j : Int) < x.toInt → (f j).toInt = c) (hx : 0 ≤ x.toInt) (hv : v.toInt = c) (hz : z.toInt = x.toInt + 1) : ∀ j : Nat, (j : Int) < z.toInt → (upd f x.toNatClampNeg v j).toInt = c := by
  intro j hj
  by_cases e : j = x.toNatClampNeg
  · rw [e, pk_us]; exact hv
  · rw [pk_un e]
    exact h j (by unfold Int32.toNatClampNeg at e; omega)
theorem c3 {n : Nat} (h : n < 3) : n = 0 ∨ n = 1 ∨ n = 2 := by omega
theorem cl3 {x : Int32} (h : 0 ≤ x.toInt ∧ x.toInt < 3) : x.toNatClampNeg = 0 ∨ x.toNatClampNeg = 1 ∨ x.toNatClampNeg = 2 := by
  unfold Int32.toNatClampNeg; omega
theorem cl_n (x : Int32) : x.toNatClampNeg = x.toInt.toNat := rfl
/-! runs of events: the log of which process had an event, and what follows of it -/
def cn (o : Nat → Int32) (p : Int) : Nat → Nat
  | 0 => 0
  | n + 1 => cn o p n + (if (o n).toInt = p then 1 else 0)
/-- where the event of time t is held -/
def sp (o : Nat → Int32) (t : Nat) : Nat := 5 * (o t).toInt.toNat + cn o (o t).toInt t
/-- how many of the first events send -/
def sd (o so : Nat → Int32) : Nat → Nat
  | 0 => 0
  | n + 1 => sd o so n + (if (so (sp o n)).toInt = 1 then 1 else 0)
def RC (pr tot ms : Int32) (ev o so ca sn se tk : Nat → Int32) : Prop :=
  (1 ≤ pr.toInt ∧ pr.toInt ≤ 4) ∧ (0 ≤ tot.toInt ∧ tot.toInt ≤ 20) ∧ (0 ≤ ms.toInt ∧ ms.toInt ≤ 8) ∧
  (∀ j, 0 ≤ (ev j).toInt ∧ (ev j).toInt ≤ 5) ∧ (∀ j, 0 ≤ (o j).toInt ∧ (o j).toInt ≤ 3) ∧
  (∀ p : Nat, p < 4 → (ev p).toInt = cn o p tot.toInt.toNat) ∧ (∀ j, (so j).toInt = 2 → 0 ≤ (ca j).toInt ∧ (ca j).toInt ≤ 7) ∧
  ms.toInt = sd o so tot.toInt.toNat ∧ (∀ j, 0 ≤ (sn j).toInt ∧ (sn j).toInt ≤ 3) ∧ (∀ j, -5 ≤ (tk j).toInt ∧ (tk j).toInt ≤ 3) ∧
  (∀ t : Nat, t < tot.toInt.toNat → (so (sp o t)).toInt = 1 → (sn (sd o so t)).toInt = (o t).toInt ∧ (se (sd o so t)).toInt = cn o (o t).toInt t + 1) ∧
  (∀ t : Nat, t < tot.toInt.toNat → (o t).toInt < pr.toInt)
/-- rows of clocks, four numbers an event -/
def CK (tot : Int32) (o ck : Nat → Int32) : Prop := (∀ j, 0 ≤ (ck j).toInt ∧ (ck j).toInt ≤ 5) ∧ ∀ t q : Nat, t < tot.toInt.toNat → q < 4 → (ck (4 * sp o t + q)).toInt ≤ cn o q (t + 1)
/-! texts: the reference's own automaton -/
def te (o : List Bool) : List Bool := o.dropWhile (fun b => !b)
def un (pr : Int) (t : Nat → Int32) (n k j : Nat) : Prop := k < n ∧
  (((t k).toInt = 109 ∧ j = k + 1) ∨
   (((t k).toInt = 120 ∨ (t k).toInt = 99) ∧ k + 1 < n ∧ 48 ≤ (t (k + 1)).toInt ∧ (t (k + 1)).toInt < 48 + pr ∧ j = k + 2) ∨
   ((48 ≤ (t k).toInt ∧ (t k).toInt ≤ 57) ∧ ((k + 1 < n ∧ 48 ≤ (t (k + 1)).toInt ∧ (t (k + 1)).toInt ≤ 57) ∧ j = k + 2 ∨ ¬ (k + 1 < n ∧ 48 ≤ (t (k + 1)).toInt ∧ (t (k + 1)).toInt ≤ 57) ∧ j = k + 1)))
def ac (pr : Int) (t : Nat → Int32) (n : Nat) : Nat → Nat → List Bool → Nat → Prop
  | 0, _, _, _ => False
  | f + 1, s, o, k =>
    (n ≤ k ∧ 2 ≤ s ∧ true ∉ o) ∨ (k < n ∧
      ((s = 0 ∧ ((t k).toInt = 33 ∨ (t k).toInt = 40) ∧ o.length < 5 ∧ ac pr t n f 0 (decide ((t k).toInt = 40) :: o) (k + 1)) ∨
       (s = 0 ∧ ¬ ((t k).toInt = 33 ∨ (t k).toInt = 40) ∧ ∃ j, un pr t n k j ∧ ac pr t n f 1 o j) ∨
       ((s = 1 ∨ s = 2) ∧ ((t k).toInt = 43 ∨ (t k).toInt = 45) ∧ ∃ j, un pr t n (k + 1) j ∧ ac pr t n f s o j) ∨
       (s = 1 ∧ ((t k).toInt = 61 ∨ (t k).toInt = 60 ∨ (t k).toInt = 62) ∧ ∃ j, un pr t n (k + 1) j ∧ ac pr t n f 2 o j) ∨
       (1 < s ∧ ((t k).toInt = 38 ∨ (t k).toInt = 124) ∧ ac pr t n f 0 (te o) (k + 1)) ∨
       (1 < s ∧ (t k).toInt = 41 ∧ true ∈ o ∧ ac pr t n f 3 (te (te o).tail) (k + 1))))
def WF (pr : Int) (t : Nat → Int32) (n : Nat) : Prop := ∃ f, ac pr t n f 0 [] 0
def TX (pr : Int32) (tm tx : Nat → Int32) : Prop := ∀ c : Nat, (0 ≤ (tm c).toInt ∧ (tm c).toInt ≤ 60) ∧ (c < 3 → 0 < (tm c).toInt → WF pr.toInt (fun j => tx (60 * c + j)) (tm c).toInt.toNat)
/-! cuts, as the reference lists them -/
def dg (m : Nat → Int) : Nat → Int
  | 0 => 0
  | k + 1 => 10 * dg m k + m k
def CU (li pr cu : Int32) (ev cd cm ca : Nat → Int32) : Prop :=
  (0 ≤ cu.toInt ∧ cu.toInt ≤ 1296) ∧ (∀ j, 0 ≤ (cm j).toInt ∧ (cm j).toInt ≤ 5) ∧ (∀ j, 0 ≤ (cd j).toInt ∧ (cd j).toInt ≤ 5555) ∧ (∀ j, -5 ≤ (ca j).toInt ∧ (ca j).toInt ≤ 1295) ∧
  (¬ li.toInt = 0 → 1 ≤ cu.toInt ∧
    (∀ i : Nat, (i : Int) < cu.toInt → (∀ p : Nat, p < 4 → (cm (4 * i + p)).toInt ≤ (ev p).toInt ∧ (pr.toInt ≤ p → (cm (4 * i + p)).toInt = 0)) ∧ (cd i).toInt = dg (fun p => (cm (4 * i + p)).toInt) pr.toInt.toNat ∧ (ca (cd i).toInt.toNat).toInt = i) ∧
    (∀ d : Nat, 0 ≤ (ca d).toInt → (ca d).toInt < cu.toInt ∧ (cd (ca d).toInt.toNat).toInt = d) ∧
    (∀ i j : Nat, i < j → (j : Int) < cu.toInt → (cd i).toInt < (cd j).toInt) ∧
    (∀ p : Nat, p < 4 → (p : Int) < pr.toInt → (cm (4 * (cu.toInt.toNat - 1) + p)).toInt = (ev p).toInt) ∧ (cd 0).toInt = 0)
/-- the reference's state -/
def IM (V : Nat → Nat → Int32) : Prop :=
  RC (V 71 0) (V 71 8) (V 71 10) (V 73) (V 79) (V 74) (V 76) (V 80) (V 81) (V 82) ∧ CK (V 71 8) (V 79) (V 78) ∧ (0 ≤ (V 71 17).toInt ∧ (V 71 17).toInt ≤ 60) ∧ (∀ j, -1 ≤ (V 87 j).toInt ∧ (V 87 j).toInt ≤ 20) ∧
  TX (V 71 0) (V 84) (V 85) ∧ CU (V 71 39) (V 71 0) (V 71 40) (V 73) (V 103) (V 104) (V 105) ∧
  (¬ (V 71 21).toInt = 0 → RC (V 71 22) (V 71 30) (V 71 32) (V 90) (V 96) (V 91) (V 93) (V 97) (V 98) (V 99) ∧ CK (V 71 30) (V 96) (V 95) ∧ TX (V 71 22) (V 101) (V 102))
theorem IM.pr {V : Nat → Nat → Int32} (h : IM V) : 1 ≤ (V 71 0).toInt ∧ (V 71 0).toInt ≤ 4 := h.1.1
theorem IM.tot {V : Nat → Nat → Int32} (h : IM V) : 0 ≤ (V 71 8).toInt ∧ (V 71 8).toInt ≤ 20 := h.1.2.1
theorem IM.ms {V : Nat → Nat → Int32} (h : IM V) : 0 ≤ (V 71 10).toInt ∧ (V 71 10).toInt ≤ 8 := h.1.2.2.1
theorem IM.ev {V : Nat → Nat → Int32} (h : IM V) : ∀ j, 0 ≤ (V 73 j).toInt ∧ (V 73 j).toInt ≤ 5 := h.1.2.2.2.1
theorem IM.ord {V : Nat → Nat → Int32} (h : IM V) : ∀ j, 0 ≤ (V 79 j).toInt ∧ (V 79 j).toInt ≤ 3 := h.1.2.2.2.2.1
theorem IM.fp {V : Nat → Nat → Int32} (h : IM V) : ∀ j, 0 ≤ (V 80 j).toInt ∧ (V 80 j).toInt ≤ 3 := h.1.2.2.2.2.2.2.2.2.1
theorem IM.tk {V : Nat → Nat → Int32} (h : IM V) : ∀ j, -5 ≤ (V 82 j).toInt ∧ (V 82 j).toInt ≤ 3 := h.1.2.2.2.2.2.2.2.2.2.1
theorem IM.ck {V : Nat → Nat → Int32} (h : IM V) : ∀ j, 0 ≤ (V 78 j).toInt ∧ (V 78 j).toInt ≤ 5 := h.2.1.1
theorem IM.tp {V : Nat → Nat → Int32} (h : IM V) : 0 ≤ (V 71 17).toInt ∧ (V 71 17).toInt ≤ 60 := h.2.2.1
theorem IM.ls {V : Nat → Nat → Int32} (h : IM V) : ∀ j, -1 ≤ (V 87 j).toInt ∧ (V 87 j).toInt ≤ 20 := h.2.2.2.1
theorem IM.tx {V : Nat → Nat → Int32} (h : IM V) : TX (V 71 0) (V 84) (V 85) := h.2.2.2.2.1
theorem IM.tm {V : Nat → Nat → Int32} (h : IM V) : ∀ j, 0 ≤ (V 84 j).toInt ∧ (V 84 j).toInt ≤ 60 := fun j => (h.2.2.2.2.1 j).1
theorem IM.cu {V : Nat → Nat → Int32} (h : IM V) : CU (V 71 39) (V 71 0) (V 71 40) (V 73) (V 103) (V 104) (V 105) := h.2.2.2.2.2.1
