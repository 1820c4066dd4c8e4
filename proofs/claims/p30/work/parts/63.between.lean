/-! the law: its script, and what class and reference leave alone of each other -/
def Sx (E : Ev) (b L : Nat) (xs : Nat → Int32) : Prop := match E with
  | (_, _, _, _, s, _, _, _, _, _, _, _, _, _, _, A, _) => va_X b L xs s s.heap ∧ b < s.heap.size ∧ ¬ A b
section SCR
variable {E : Ev} {ad : Nat → Nat} {l0 : Launch} {R0 : Room} {n0 : Nat} {cc : ByteArray} {own : String} {pc : Nat} {lv : List (Option Value)} {st : List Value} {σ : Sg} {b L : Nat} {xs : Nat → Int32}
theorem s_sld (C : Cx E l0 R0 n0 cc own) (S : Sx E b L xs) {x : Int32} (h : 0 ≤ x.toInt ∧ x.toInt < L) (d : decode cc pc = .ok (.iaload, 1)) (k : WP E ad (pc + 1) lv (.int (xs x.toNatClampNeg) :: st) σ) : WP E ad pc lv (.int x :: .ref b :: st) σ := by
  obtain ⟨p, l, e, R, s, m, args, below, meth, c, cells, slots, Q, D, ck, A, nL⟩ := E
  obtain ⟨rfl, rfl, rfl, hx, hb, hml, hown, hts, hK, hA, hlk, hc1, hc2⟩ := C
  intro H locs ls hP hD hS hl
  exact va_sld hx hb S.1 S.2.1 S.2.2 hS (vin h) d (k H locs ls hP hD hS hl)
theorem s_slen (C : Cx E l0 R0 n0 cc own) (S : Sx E b L xs) (hL : L < 2147483648) (d : decode cc pc = .ok (.arraylength, 1)) (k : ∀ z : Int32, z.toInt = L → WP E ad (pc + 1) lv (.int z :: st) σ) : WP E ad pc lv (.ref b :: st) σ := by
  obtain ⟨p, l, e, R, s, m, args, below, meth, c, cells, slots, Q, D, ck, A, nL⟩ := E
  obtain ⟨rfl, rfl, rfl, hx, hb, hml, hown, hts, hK, hA, hlk, hc1, hc2⟩ := C
  intro H locs ls hP hD hS hl
  exact va_slen hx hb S.1 S.2.1 S.2.2 hS d (k _ (nI_toInt (by omega)) H locs ls hP hD hS hl)
end SCR
theorem Fr.ge {cs : List Nat} {fs : List (Nat × Nat)} {σ τ : Sg} (h : Fr cs fs σ τ) (hc : ∀ x ∈ cs, x < 71) (hf : ∀ x ∈ fs, x.1 < 71) : ∀ i, 71 ≤ i → τ.1 i = σ.1 i := fun i hi => h.a i (fun q => by have := hc i q; omega) (fun x hx q => by have := hf x hx; omega)
theorem Fr.lt {cs : List Nat} {fs : List (Nat × Nat)} {σ τ : Sg} (h : Fr cs fs σ τ) (hc : ∀ x ∈ cs, 71 ≤ x) (hf : ∀ x ∈ fs, 71 ≤ x.1) : ∀ i, i < 71 → τ.1 i = σ.1 i := fun i hi => h.a i (fun q => by have := hc i q; omega) (fun x hx q => by have := hf x hx; omega)
theorem IM.of {V V' : Nat → Nat → Int32} (h : ∀ i, 71 ≤ i → V' i = V i) (hI : IM V) : IM V' := by
  unfold IM
  rw [h 71 (by decide), h 73 (by decide), h 79 (by decide), h 74 (by decide), h 76 (by decide), h 80 (by decide), h 81 (by decide), h 82 (by decide), h 78 (by decide), h 87 (by decide), h 84 (by decide), h 85 (by decide), h 103 (by decide), h 104 (by decide), h 105 (by decide), h 90 (by decide), h 96 (by decide), h 91 (by decide), h 93 (by decide), h 97 (by decide), h 98 (by decide), h 99 (by decide), h 95 (by decide), h 101 (by decide), h 102 (by decide)]
  exact hI
theorem IX.of {V V' : Nat → Nat → Int32} (h : ∀ i, i < 71 → V' i = V i) (hX : IX V) : IX V' := by
  unfold IX CN
  rw [h 1 (by decide), h 3 (by decide), h 4 (by decide), h 5 (by decide), h 7 (by decide), h 10 (by decide), h 11 (by decide), h 12 (by decide), h 14 (by decide), h 16 (by decide), h 17 (by decide), h 18 (by decide), h 20 (by decide), h 23 (by decide), h 24 (by decide), h 25 (by decide), h 31 (by decide), h 32 (by decide), h 33 (by decide), h 34 (by decide), h 35 (by decide), h 36 (by decide), h 40 (by decide), h 41 (by decide), h 42 (by decide), h 43 (by decide), h 44 (by decide), h 45 (by decide), h 46 (by decide), h 47 (by decide), h 48 (by decide), h 61 (by decide), h 62 (by decide), h 63 (by decide), h 66 (by decide), h 68 (by decide), h 69 (by decide)]
  exact hX
