/-! what is open, as a list -/
def Op (f : Nat → Int32) : List Bool → Prop
  | [] => True
  | b :: r => (f r.length).toInt = (if b = true then 40 else 33) ∧ Op f r
theorem Op_up {f : Nat → Int32} {n : Nat} {c : Int32} : ∀ (o : List Bool), o.length ≤ n → Op f o → Op (upd f n c) o
  | [], _, _ => trivial
  | b :: r, h, ho => ⟨by rw [pk_un (by simp at h; omega)]; exact ho.1, Op_up r (by simp at h; omega) ho.2⟩
theorem te_cons_f (r : List Bool) : te (false :: r) = te r := rfl
theorem te_cons_t (r : List Bool) : te (true :: r) = true :: r := rfl
theorem te_len : ∀ o : List Bool, (te o).length ≤ o.length
  | [] => Nat.le_refl _
  | false :: r => by rw [te_cons_f]; have := te_len r; simp; omega
  | true :: r => by rw [te_cons_t]; exact Nat.le_refl _
theorem Op_te {f : Nat → Int32} : ∀ o : List Bool, Op f o → Op f (te o)
  | [], h => h
  | false :: r, h => by rw [te_cons_f]; exact Op_te r h.2
  | true :: r, h => h
theorem Op_tail {f : Nat → Int32} : ∀ o : List Bool, Op f o → Op f o.tail
  | [], h => h
  | _ :: _, h => h.2
theorem te_mem : ∀ o : List Bool, true ∈ te o ↔ true ∈ o
  | [] => Iff.rfl
  | false :: r => by rw [te_cons_f, te_mem r]; simp
  | true :: r => by rw [te_cons_t]
theorem te_hd {o : List Bool} (h : true ∈ o) : ∃ r, te o = true :: r := by
  induction o with
  | nil => simp at h
  | cons b r ih =>
    cases b with
    | true => exact ⟨r, rfl⟩
    | false => rw [te_cons_f]; exact ih (by simpa using h)
theorem Op_all {f : Nat → Int32} : ∀ o : List Bool, Op f o → (∀ k : Nat, k < o.length → ¬ (f k).toInt = 40) → true ∉ o
  | [], _, _ => by simp
  | b :: r, h, hk => by
    have h1 := hk r.length (by simp)
    have h2 := h.1
    cases b with
    | true => rw [if_pos rfl] at h2; exact absurd h2 h1
    | false =>
      have := Op_all r h.2 (fun k hk' => hk k (by simp; omega))
      simp [this]
theorem Op_one {f : Nat → Int32} : ∀ o : List Bool, Op f o → ∀ k : Nat, k < o.length → (f k).toInt = 40 → true ∈ o
  | [], _, k, hk, _ => by simp at hk
  | b :: r, h, k, hk, h4 => by
    rcases Nat.lt_or_ge k r.length with q | q
    · exact List.mem_cons_of_mem _ (Op_one r h.2 k q h4)
    · have e : k = r.length := by simp at hk; omega
      subst e
      cases b with
      | true => exact List.mem_cons_self
      | false => rw [h.1] at h4; simp at h4
theorem Op_b {f : Nat → Int32} {b : Bool} {r : List Bool} (h : Op f (b :: r)) : ((f r.length).toInt = 33 → b = false) ∧ (¬ (f r.length).toInt = 33 → b = true) := by
  have h1 := h.1
  cases b with
  | true => rw [if_pos rfl] at h1; exact ⟨fun q => by omega, fun _ => rfl⟩
  | false => rw [if_neg (by simp)] at h1; exact ⟨fun _ => rfl, fun q => by omega⟩
