/-! the list of cuts, as it grows -/
def LE (pr cu : Int32) (ev cd cm ca : Nat → Int32) : Prop :=
  (∀ j, 0 ≤ (cm j).toInt ∧ (cm j).toInt ≤ 5) ∧ (∀ j, 0 ≤ (cd j).toInt ∧ (cd j).toInt ≤ 5555) ∧ (∀ j, -5 ≤ (ca j).toInt ∧ (ca j).toInt ≤ 1295) ∧
  (∀ i : Nat, (i : Int) < cu.toInt → (∀ p : Nat, p < 4 → (cm (4 * i + p)).toInt ≤ (ev p).toInt ∧ (pr.toInt ≤ p → (cm (4 * i + p)).toInt = 0)) ∧ (cd i).toInt = dg (fun p => (cm (4 * i + p)).toInt) pr.toInt.toNat ∧ (ca (cd i).toInt.toNat).toInt = i) ∧
  (∀ d : Nat, 0 ≤ (ca d).toInt → (ca d).toInt < cu.toInt ∧ (cd (ca d).toInt.toNat).toInt = d) ∧
  (∀ i j : Nat, i < j → (j : Int) < cu.toInt → (cd i).toInt < (cd j).toInt) ∧ (0 < cu.toInt → (cd 0).toInt = 0)
def nw (τ : Sg) : Nat → Int := fun j => (τ.1 106 j).toInt
/-- what holds of the list and of the count at any time -/
def LB (σ τ : Sg) : Prop := Fr [103, 104, 105, 106] [(71, 39), (71, 40)] σ τ ∧ (τ.1 71 39).toInt = 1 ∧ (∀ j, 0 ≤ (τ.1 106 j).toInt ∧ (τ.1 106 j).toInt ≤ 5) ∧ (∀ p : Nat, p < 4 → (τ.1 106 p).toInt ≤ (σ.1 73 p).toInt ∧ ((σ.1 71 0).toInt ≤ p → (τ.1 106 p).toInt = 0)) ∧ LE (σ.1 71 0) (τ.1 71 40) (σ.1 73) (τ.1 103) (τ.1 104) (τ.1 105) ∧ 0 ≤ (τ.1 71 40).toInt
/-- ahead of the count's turn -/
def LA (σ τ : Sg) : Prop := LB σ τ ∧ (∀ i : Nat, (i : Int) < (τ.1 71 40).toInt → (τ.1 103 i).toInt < dg (nw τ) (σ.1 71 0).toInt.toNat) ∧ (τ.1 71 40).toInt ≤ rk (nw τ) (σ.1 71 0).toInt.toNat ∧ ((τ.1 71 40).toInt = 0 → ∀ p : Nat, (τ.1 106 p).toInt = 0)
/-- behind it -/
def LZ (σ τ : Sg) : Prop := LB σ τ ∧ (∀ i : Nat, (i : Int) < (τ.1 71 40).toInt → (τ.1 103 i).toInt ≤ dg (nw τ) (σ.1 71 0).toInt.toNat) ∧ (τ.1 71 40).toInt ≤ rk (nw τ) (σ.1 71 0).toInt.toNat + 1 ∧ ((∀ p : Nat, (p : Int) < (σ.1 71 0).toInt → (τ.1 106 p).toInt = (σ.1 73 p).toInt) → 1 ≤ (τ.1 71 40).toInt ∧ ∀ p : Nat, p < 4 → (p : Int) < (σ.1 71 0).toInt → (τ.1 104 (4 * ((τ.1 71 40).toInt.toNat - 1) + p)).toInt = (σ.1 73 p).toInt) ∧ 1 ≤ (τ.1 71 40).toInt
theorem dg_z {m : Nat → Int} (h : ∀ j, m j = 0) : ∀ k, dg m k = 0
  | 0 => rfl
  | k + 1 => by show 10 * dg m k + m k = 0; rw [dg_z h k, h k]; rfl
theorem im_cuts {σ τ : Sg} (hI : IM σ.1) (hF : Fr [103, 104, 105, 106] [(71, 39), (71, 40)] σ τ) (hc : CU (τ.1 71 39) (σ.1 71 0) (τ.1 71 40) (σ.1 73) (τ.1 103) (τ.1 104) (τ.1 105)) : IM τ.1 := by
  have f : ∀ q, (71, q) ∉ [(71, 39), (71, 40)] → τ.1 71 q = σ.1 71 q := fun q h => hF.f 71 q (by decide) h
  have a : ∀ i, i ∉ [103, 104, 105, 106] → i ≠ 71 → τ.1 i = σ.1 i := fun i h1 h2 => hF.a i h1 (by intro x hx; simp at hx; rcases hx with rfl | rfl <;> exact fun q => h2 q.symm)
  refine ⟨?_, ?_, ?_, ?_, ?_, ?_, ?_⟩
  · rw [f 0 (by decide), f 8 (by decide), f 10 (by decide), a 73 (by decide) (by decide), a 79 (by decide) (by decide), a 74 (by decide) (by decide), a 76 (by decide) (by decide), a 80 (by decide) (by decide), a 81 (by decide) (by decide), a 82 (by decide) (by decide)]
    exact hI.1
  · rw [f 8 (by decide), a 79 (by decide) (by decide), a 78 (by decide) (by decide)]; exact hI.2.1
  · rw [f 17 (by decide)]; exact hI.tp
  · rw [a 87 (by decide) (by decide)]; exact hI.ls
  · rw [f 0 (by decide), a 84 (by decide) (by decide), a 85 (by decide) (by decide)]; exact hI.tx
  · rw [f 0 (by decide), a 73 (by decide) (by decide)]; exact hc
  · exact img_keep hI (fun i hi => a i (by simp at hi ⊢; omega) (by simp at hi; omega)) (fun k hk => f k (by simp at hk ⊢; omega))
theorem lz_end {σ τ τ' : Sg} (hI : IM σ.1) (h : LZ σ τ) (hF : Fr [106] [] τ τ') (hall : ∀ p : Nat, (p : Int) < (σ.1 71 0).toInt → (τ.1 106 p).toInt = (σ.1 73 p).toInt) : IM τ'.1 ∧ (τ'.1 71 39).toInt = 1 ∧ Fr [103, 104, 105, 106] [(71, 39), (71, 40)] σ τ' := by
  obtain ⟨⟨b1, b2, b3, b4, b5, b6⟩, h2, h3, h4, h5⟩ := h
  obtain ⟨e1, e2⟩ := h4 hall
  obtain ⟨l1, l2, l3, l4, l5, l6, l7⟩ := b5
  have hF2 : Fr [103, 104, 105, 106] [(71, 39), (71, 40)] σ τ' := b1.tr (hF.mo (by decide) (by decide))
  have hr := rk_b (m := nw τ) b3 (k := (σ.1 71 0).toInt.toNat) (by have := hI.pr; omega)
  have g39 := hF.f 71 39 (by decide) (by decide)
  refine ⟨im_cuts hI hF2 ?_, by rw [g39]; exact b2, hF2⟩
  rw [g39, hF.f 71 40 (by decide) (by decide), hF.a 103 (by decide) (by decide), hF.a 104 (by decide) (by decide), hF.a 105 (by decide) (by decide)]
  exact ⟨by omega, l1, l2, l3, fun _ => ⟨e1, l4, l5, l6, e2, l7 (by omega)⟩⟩
/-- the count goes on -/
theorem lz_next {σ τ υ : Sg} (hI : IM σ.1) (h : LZ σ τ) {P : Nat} (hP : (P : Int) < (σ.1 71 0).toInt) (hF : Fr [106] [] τ υ) (h1 : ∀ j, j < P → (υ.1 106 j).toInt = (τ.1 106 j).toInt) (h2 : (υ.1 106 P).toInt = (τ.1 106 P).toInt + 1) (h2' : (υ.1 106 P).toInt ≤ (σ.1 73 P).toInt) (h3 : ∀ j, P < j → j < 4 → (υ.1 106 j).toInt = 0) (b3' : ∀ j, 0 ≤ (υ.1 106 j).toInt ∧ (υ.1 106 j).toInt ≤ 5) : LA σ υ ∧ rk (nw τ) (σ.1 71 0).toInt.toNat + 1 ≤ rk (nw υ) (σ.1 71 0).toInt.toNat ∧ rk (nw υ) (σ.1 71 0).toInt.toNat ≤ 1295 := by
  obtain ⟨⟨b1, b2, b3, b4, b5, b6⟩, z2, z3, z4, z5⟩ := h
  have hpr := hI.pr
  have hev := hI.ev P
  obtain ⟨n1, n2⟩ := dg_next (m := nw τ) (m' := nw υ) (P := P) b3 h1 h2 h3 (σ.1 71 0).toInt.toNat (by omega) (by omega)
  have hr := rk_b (m := nw υ) b3' (k := (σ.1 71 0).toInt.toNat) (by omega)
  refine ⟨⟨⟨b1.tr (hF.mo (by decide) (by decide)), by rw [hF.f 71 39 (by decide) (by decide)]; exact b2, b3', fun p hp => ?_, ?_, by rw [hF.f 71 40 (by decide) (by decide)]; exact b6⟩, ?_, ?_, fun q => by rw [hF.f 71 40 (by decide) (by decide)] at q; omega⟩, n2, hr.2⟩
  · have hb := b4 p hp
    rcases Nat.lt_trichotomy p P with q | q | q
    · rw [h1 p q]; exact hb
    · subst q; exact ⟨h2', fun q => by omega⟩
    · rw [h3 p q hp]; exact ⟨by have := hI.ev p; omega, fun _ => rfl⟩
  · rw [hF.f 71 40 (by decide) (by decide), hF.a 103 (by decide) (by decide), hF.a 104 (by decide) (by decide), hF.a 105 (by decide) (by decide)]; exact b5
  · rw [hF.f 71 40 (by decide) (by decide), hF.a 103 (by decide) (by decide)]
    intro i hi
    have := z2 i hi
    omega
  · rw [hF.f 71 40 (by decide) (by decide)]; omega
/-- all events together hold -/
theorem full_holds {σ τ : Sg} (hI : IM σ.1) (hF : Fr [103, 104, 105, 106] [(71, 39), (71, 40)] σ τ) (hall : ∀ p : Nat, (p : Int) < (σ.1 71 0).toInt → (τ.1 106 p).toInt = (σ.1 73 p).toInt) : ∀ p q : Nat, (p : Int) < (τ.1 71 0).toInt → (q : Int) < (τ.1 71 0).toInt → 0 < (τ.1 106 p).toInt → (τ.1 78 (4 * (5 * p + (τ.1 106 p).toInt.toNat - 1) + q)).toInt ≤ (τ.1 106 q).toInt := by
  have hpr := hI.pr
  rw [hF.f 71 0 (by decide) (by decide), hF.a 78 (by decide) (by decide)]
  intro p q hp hq h0
  rw [hall p hp] at h0 ⊢
  rw [hall q hq]
  have h1 := ck_prev hI.1 hI.2.1 (P := p) (by omega) (by omega) (q := q) (by omega)
  have h2 := hI.1.2.2.2.2.2.1 q (by omega)
  omega
/-- no cut at this turn -/
theorem la_skip {σ τ : Sg} (hI : IM σ.1) (h : LA σ τ) {r : Int32} (hr : (∀ p q : Nat, (p : Int) < (τ.1 71 0).toInt → (q : Int) < (τ.1 71 0).toInt → 0 < (τ.1 106 p).toInt → (τ.1 78 (4 * (5 * p + (τ.1 106 p).toInt.toNat - 1) + q)).toInt ≤ (τ.1 106 q).toInt) → r.toInt = 1) (h0 : ¬ r.toInt = 1) : LZ σ τ := by
  obtain ⟨hb, h2, h3, h4⟩ := h
  have hc0 := hb.2.2.2.2.2
  exact ⟨hb, fun i hi => Int.le_of_lt (h2 i hi), by omega, fun hall => absurd (hr (full_holds hI hb.1 hall)) h0, by
    rcases Int.lt_or_le 0 (τ.1 71 40).toInt with q | q
    · omega
    · exact absurd (hr (fun p q' _ _ hp => by rw [h4 (by omega) p] at hp; omega)) h0⟩
/-- a cut more -/
theorem la_add {σ τ υ : Sg} (hI : IM σ.1) (h : LA σ τ) {c : Nat} {d : Nat} (hc : (c : Int) = (τ.1 71 40).toInt) (hd : (d : Int) = dg (nw τ) (σ.1 71 0).toInt.toNat) (hF : Fr [103, 104, 105] [(71, 40)] τ υ) (g40 : (υ.1 71 40).toInt = c + 1) {x y : Int32} (g103 : υ.1 103 = upd (τ.1 103) c x) (hx : x.toInt = d) (g105 : υ.1 105 = upd (τ.1 105) d y) (hy : y.toInt = c) (go : ∀ j, ¬ (4 * c ≤ j ∧ j < 4 * c + 4) → υ.1 104 j = τ.1 104 j) (gq : ∀ q, q < 4 → υ.1 104 (4 * c + q) = τ.1 106 q) : LZ σ υ := by
  obtain ⟨⟨b1, b2, b3, b4, b5, b6⟩, h2, h3, h4⟩ := h
  obtain ⟨l1, l2, l3, l4, l5, l6, l7⟩ := b5
  have hpr := hI.pr
  have hr := rk_b (m := nw τ) b3 (k := (σ.1 71 0).toInt.toNat) (by omega)
  have hdb := dg_b (m := nw τ) b3 (k := (σ.1 71 0).toInt.toNat) (by omega)
  have e106 : υ.1 106 = τ.1 106 := hF.a 106 (by decide) (by decide)
  have enw : nw υ = nw τ := by unfold nw; rw [e106]
  have l1' : ∀ j, 0 ≤ (υ.1 104 j).toInt ∧ (υ.1 104 j).toInt ≤ 5 := by
    intro j
    by_cases hj : 4 * c ≤ j ∧ j < 4 * c + 4
    · have e := gq (j - 4 * c) (by omega)
      rw [show 4 * c + (j - 4 * c) = j by omega] at e
      rw [e]; exact b3 _
    · rw [go j hj]; exact l1 j
  have hcut : ∀ i : Nat, i < c → ∀ p, p < 4 → υ.1 104 (4 * i + p) = τ.1 104 (4 * i + p) := fun i hi p hp => go _ (by omega)
  have hold : ∀ i : Nat, (i : Int) < (τ.1 71 40).toInt → (υ.1 103 i) = (τ.1 103 i) := fun i hi => by rw [g103, pk_un (by omega)]
  have hdi : ∀ i : Nat, (i : Int) < (τ.1 71 40).toInt → (τ.1 103 i).toInt.toNat ≠ d := fun i hi => by have := h2 i hi; have := l2 i; omega
  refine ⟨⟨b1.tr (hF.mo (by decide) (by decide)), by rw [hF.f 71 39 (by decide) (by decide)]; exact b2, by rw [e106]; exact b3, by rw [e106]; exact b4, ⟨l1', ?_, ?_, ?_, ?_, ?_, ?_⟩, by omega⟩, ?_, ?_, ?_, by omega⟩
  · rw [g103]; exact up_iv l2 _ (by omega)
  · rw [g105]; exact up_iv l3 _ (by omega)
  · intro i hi
    rw [g40] at hi
    rcases Nat.lt_or_ge i c with q | q
    · have ho := l4 i (by omega)
      refine ⟨fun p hp => by rw [hcut i q p hp]; exact ho.1 p hp, ?_, ?_⟩
      · rw [hold i (by omega), ho.2.1]
        exact dg_congr (fun p hp => by rw [hcut i q p (by omega)])
      · rw [hold i (by omega), g105, pk_un (hdi i (by omega))]
        exact ho.2.2
    · have e : i = c := by omega
      subst e
      refine ⟨fun p hp => by rw [gq p hp]; exact b4 p hp, ?_, ?_⟩
      · rw [g103, pk_us, hx, hd]
        exact dg_congr (fun p hp => by rw [gq p (by omega)]; rfl)
      · rw [g103, pk_us, hx, g105]
        rw [show ((d : Nat) : Int).toNat = d by omega, pk_us]
        exact hy
  · intro e he
    rw [g105] at he ⊢
    by_cases q : e = d
    · rw [q, pk_us] at he ⊢
      rw [g40, hy, g103, show ((c : Nat) : Int).toNat = c by omega, pk_us]
      exact ⟨by omega, hx⟩
    · rw [pk_un q] at he ⊢
      have ho := l5 e he
      rw [g40]
      refine ⟨by omega, ?_⟩
      rw [hold _ (by omega)]
      exact ho.2
  · intro i j hij hj
    rw [g40] at hj
    rw [hold i (by omega)]
    rcases Nat.lt_or_ge j c with q | q
    · rw [hold j (by omega)]; exact l6 i j hij (by omega)
    · have e : j = c := by omega
      rw [e, g103, pk_us, hx, hd]
      exact h2 i (by omega)
  · intro _
    rw [g103]
    by_cases q : c = 0
    · rw [q, pk_us, hx, hd]; exact dg_z (h4 (by omega)) _
    · rw [pk_un (by omega)]; exact l7 (by omega)
  · intro i hi
    rw [g40] at hi
    rw [enw]
    rcases Nat.lt_or_ge i c with q | q
    · rw [hold i (by omega)]; exact Int.le_of_lt (h2 i (by omega))
    · have e : i = c := by omega
      rw [e, g103, pk_us, hx, hd]
      exact Int.le_refl _
  · rw [enw]; omega
  · intro hall
    refine ⟨by omega, fun p hp hpp => ?_⟩
    rw [show (υ.1 71 40).toInt.toNat - 1 = c by omega, gq p hp]
    rw [e106] at hall
    exact hall p hpp
