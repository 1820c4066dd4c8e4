theorem Op_push {f : Nat → Int32} {o : List Bool} {c t : Int32} (h : Op f o) (hc : c.toInt = 33 ∨ c.toInt = 40) (ht : t.toInt = c.toInt) : Op (upd f o.length c) (decide (t.toInt = 40) :: o) := by
  refine ⟨?_, Op_up o (Nat.le_refl _) h⟩
  rw [pk_us, ht]
  rcases hc with e | e
  · rw [e]; decide
  · rw [e]; decide
theorem un_le {pr : Int} {t : Nat → Int32} {n k j : Nat} (h : un pr t n k j) : j ≤ n := by
  unfold un at h
  omega
