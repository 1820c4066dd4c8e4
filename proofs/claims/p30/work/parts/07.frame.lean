def fV (ad : Nat → Nat) (f : Nat → Int32) (fs : List (Option Nat)) : List Value := fs.zipIdx.map (fun q => match q.1 with
  | none => Value.int (f q.2)
  | some j => Value.ref (ad j))
def gK (ad : Nat → Nat) (f : Nat → Int32) (g : Nat → Int64) (b : Nat) (kd : Nat) : (Nat → Int32) ⊕ (Nat → Int64) ⊕ (Nat → UInt32) ⊕ (Nat → UInt64) ⊕ (Nat → Option Nat) := match kd with
  | 0 => .inl f
  | 1 => .inr (.inl g)
  | 2 => .inl f
  | _ => .inr (.inr (.inr (.inr (fun j => some (ad (b + j))))))
def gE (ck : Nat → ClassId) (ad : Nat → Nat) (σ : Sg) (i : Nat) (c : Lc) : va_E := match c with
  | .inl (kd, n, b) => .inl (ck kd, n, gK ad (σ.1 i) (σ.2 i) b kd)
  | .inr (ci, fs) => .inr (ci, fV ad (σ.1 i) fs)
def gW (ck : Nat → ClassId) (ad : Nat → Nat) (σ : Sg) : va_W := lay.zipIdx.map (fun q => (ad q.2, gE ck ad σ q.2 q.1))
def tyk (ck : Nat → ClassId) : List (ClassId × FieldType) := [(ck 0, .int), (ck 1, .long), (ck 2, .boolean), (ck 3, .object "RunCuts$Condition"), (ck 4, .object "RunCuts$Survey"), (ck 5, .object "RunCuts$LongRow")]
def sV (σ : Sg) (i k : Nat) (v : Int32) : Sg := (va_up σ.1 i (upd (σ.1 i) k v), σ.2)
def sR (σ : Sg) (i : Nat) (f : Nat → Int32) : Sg := (va_up σ.1 i f, σ.2)
def sL (σ : Sg) (i k : Nat) (v : Int64) : Sg := (σ.1, va_up σ.2 i (vp_updL (σ.2 i) k v))
def sQ (σ : Sg) (i : Nat) (f : Nat → Int64) : Sg := (σ.1, va_up σ.2 i f)
theorem gW_at {ck : Nat → ClassId} {ad : Nat → Nat} {σ : Sg} {i : Nat} {c : Lc} (h : lay[i]? = some c) : (gW ck ad σ)[i]? = some (ad i, gE ck ad σ i c) := by
  unfold gW
  rw [List.getElem?_map, List.getElem?_zipIdx, h]
  simp
theorem gW_some {ck : Nat → ClassId} {ad : Nat → Nat} {σ : Sg} {i : Nat} {q : Nat × va_E} (h : (gW ck ad σ)[i]? = some q) : ∃ c, lay[i]? = some c ∧ q = (ad i, gE ck ad σ i c) := by
  cases hc : lay[i]? with
  | none =>
    unfold gW at h
    rw [List.getElem?_map, List.getElem?_zipIdx, hc] at h
    simp at h
  | some c => exact ⟨c, rfl, Option.some.inj (h.symm.trans (gW_at hc))⟩
theorem gW_none {ck : Nat → ClassId} {ad : Nat → Nat} {σ : Sg} {i : Nat} (h : lay[i]? = none) : (gW ck ad σ)[i]? = none := by
  unfold gW
  rw [List.getElem?_map, List.getElem?_zipIdx, h]
  simp
theorem gE_eq {ck : Nat → ClassId} {ad : Nat → Nat} {σ τ : Sg} {i : Nat} (h1 : σ.1 i = τ.1 i) (h2 : σ.2 i = τ.2 i) (c : Lc) : gE ck ad σ i c = gE ck ad τ i c := by
  cases c with
  | inl q => obtain ⟨kd, n, b⟩ := q; simp only [gE, h1, h2]
  | inr q => obtain ⟨ci, fs⟩ := q; simp only [gE, h1]
/-- one cell of the world is another -/
theorem gW_set {ck : Nat → ClassId} {ad : Nat → Nat} {σ τ : Sg} {i : Nat} {c : Lc} (h : lay[i]? = some c) (ho : ∀ j, j ≠ i → σ.1 j = τ.1 j ∧ σ.2 j = τ.2 j) : (gW ck ad σ).set i (ad i, gE ck ad τ i c) = gW ck ad τ := by
  apply List.ext_getElem?
  intro j
  by_cases hj : j = i
  · subst hj
    have hlt : j < (gW ck ad σ).length := (List.getElem?_eq_some_iff.mp (gW_at (ck := ck) (ad := ad) (σ := σ) h)).1
    rw [List.getElem?_set_self hlt, gW_at h]
  · rw [List.getElem?_set_ne (fun q => hj q.symm)]
    cases hc : lay[j]? with
    | none => rw [gW_none hc, gW_none hc]
    | some d => rw [gW_at hc, gW_at hc, gE_eq (ho j hj).1 (ho j hj).2]
theorem sV_o {σ : Sg} {i k : Nat} {v : Int32} (j : Nat) (h : j ≠ i) : σ.1 j = (sV σ i k v).1 j ∧ σ.2 j = (sV σ i k v).2 j := ⟨(va_up_ne _ _ h).symm, rfl⟩
theorem sR_o {σ : Sg} {i : Nat} {f : Nat → Int32} (j : Nat) (h : j ≠ i) : σ.1 j = (sR σ i f).1 j ∧ σ.2 j = (sR σ i f).2 j := ⟨(va_up_ne _ _ h).symm, rfl⟩
theorem sL_o {σ : Sg} {i k : Nat} {v : Int64} (j : Nat) (h : j ≠ i) : σ.1 j = (sL σ i k v).1 j ∧ σ.2 j = (sL σ i k v).2 j := ⟨rfl, (va_up_ne _ _ h).symm⟩
theorem sQ_o {σ : Sg} {i : Nat} {f : Nat → Int64} (j : Nat) (h : j ≠ i) : σ.1 j = (sQ σ i f).1 j ∧ σ.2 j = (sQ σ i f).2 j := ⟨rfl, (va_up_ne _ _ h).symm⟩
theorem rd_us (σ : Sg) (i k : Nat) (v : Int32) : (sV σ i k v).1 i k = v := by
  show va_up σ.1 i (upd (σ.1 i) k v) i k = v
  rw [va_up_self, pk_us]
theorem fV_at {ad : Nat → Nat} {f : Nat → Int32} {fs : List (Option Nat)} {k : Nat} (h : fs[k]? = some none) : (fV ad f fs)[k]? = some (.int (f k)) := by
  unfold fV
  rw [List.getElem?_map, List.getElem?_zipIdx, h]
  simp
theorem fV_ref {ad : Nat → Nat} {f : Nat → Int32} {fs : List (Option Nat)} {k j : Nat} (h : fs[k]? = some (some j)) : (fV ad f fs)[k]? = some (.ref (ad j)) := by
  unfold fV
  rw [List.getElem?_map, List.getElem?_zipIdx, h]
  simp
theorem fV_len {ad : Nat → Nat} {f : Nat → Int32} {fs : List (Option Nat)} : (fV ad f fs).length = fs.length := by simp [fV]
theorem fV_set {ad : Nat → Nat} {f : Nat → Int32} {fs : List (Option Nat)} {k : Nat} {v : Int32} (h : fs[k]? = some none) : (fV ad f fs).set k (.int v) = fV ad (upd f k v) fs := by
  have hk : k < fs.length := (List.getElem?_eq_some_iff.mp h).1
  apply List.ext_getElem?
  intro j
  by_cases hj : j = k
  · subst hj
    rw [List.getElem?_set_self (by rw [fV_len]; exact hk), fV_at h, pk_us]
  · rw [List.getElem?_set_ne (fun q => hj q.symm)]
    unfold fV
    rw [List.getElem?_map, List.getElem?_map, List.getElem?_zipIdx]
    cases fs[j]? with
    | none => rfl
    | some w => cases w with
      | none => simp [pk_un hj]
      | some r => rfl
/-- locals by their places -/
def lh (ls : Array Slot) (nL : Nat) (lv : List (Option Value)) : Prop := ls.size = nL ∧ lv_wf ls ∧ ∀ (i : Nat) (v : Value), lv[i]? = some (some v) → ls[i]? = some (.val v)
def lq (lv : List (Option Value)) : List (Nat × Value) := lv.zipIdx.filterMap (fun q => q.1.map (fun v => (q.2, v)))
theorem lq_mem {lv : List (Option Value)} {i : Nat} {v : Value} : (i, v) ∈ lq lv ↔ lv[i]? = some (some v) := by
  unfold lq
  rw [List.mem_filterMap]
  constructor
  · rintro ⟨⟨a, j⟩, h1, h2⟩
    have h3 := List.mem_zipIdx_iff_getElem?.mp h1
    cases a with
    | none => simp at h2
    | some w =>
      simp only [Option.map_some, Option.some.injEq, Prod.mk.injEq] at h2
      obtain ⟨rfl, rfl⟩ := h2
      simpa using h3
  · intro h
    exact ⟨(some v, i), List.mem_zipIdx_iff_getElem?.mpr (by simpa using h), rfl⟩
theorem lq_of {ls : Array Slot} {nL : Nat} {lv : List (Option Value)} (h : lh ls nL lv) : lv_has ls nL (lq lv) := ⟨h.1, h.2.1, fun q hq => h.2.2 q.1 q.2 (lq_mem.mp hq)⟩
theorem lh_sub {ls : Array Slot} {nL : Nat} {lv lv' : List (Option Value)} (h : lh ls nL lv) (hs : ∀ (i : Nat) (v : Value), lv'[i]? = some (some v) → lv[i]? = some (some v)) : lh ls nL lv' := ⟨h.1, h.2.1, fun i v hv => h.2.2 i v (hs i v hv)⟩
/-- no long lies over place i -/
def lok (lv : List (Option Value)) (i : Nat) : Bool := match i with
  | 0 => true
  | j + 1 => match lv[j]? with
    | some (some (.long _)) => false
    | some (some (.double _)) => false
    | _ => true
theorem lok_cat {lv : List (Option Value)} {i j : Nat} (h : lok lv i = true) (hj : j + 1 = i) {w : Value} (hw : lv[j]? = some (some w)) : (w.category == 2) = false := by
  subst hj
  simp only [lok, hw] at h
  cases w <;> first | rfl | (simp at h)
theorem lh_st1 {ls : Array Slot} {nL : Nat} {lv : List (Option Value)} {i : Nat} {v : Value} (h : lv_has ls nL ((i, v) :: (lq lv).filter (fun q => !(q.1 == i) && !(q.1 + 1 == i && q.2.category == 2)))) (hok : lok lv i = true) (hi : i < lv.length) : lh ls nL (lv.set i (some v)) := by
  refine ⟨h.1, h.2.1, fun j w hw => ?_⟩
  by_cases hj : j = i
  · subst hj
    rw [List.getElem?_set_self hi] at hw
    cases hw
    exact h.2.2 (j, v) List.mem_cons_self
  · rw [List.getElem?_set_ne (fun q => hj q.symm)] at hw
    refine h.2.2 (j, w) (List.mem_cons_of_mem _ (List.mem_filter.mpr ⟨lq_mem.mpr hw, ?_⟩))
    by_cases hc : j + 1 = i
    · have := lok_cat hok hc hw
      simp [hj, this]
    · simp [hj, hc]
theorem lh_st2 {ls : Array Slot} {nL : Nat} {lv : List (Option Value)} {i : Nat} {v : Value} (h : lv_has ls nL ((i, v) :: (lq lv).filter (fun q => !(q.1 == i) && (!(q.1 == i + 1) && !(q.1 + 1 == i && q.2.category == 2))))) (hok : lok lv i = true) (hi : i + 1 < lv.length) : lh ls nL ((lv.set i (some v)).set (i + 1) none) := by
  refine ⟨h.1, h.2.1, fun j w hw => ?_⟩
  by_cases hj1 : j = i + 1
  · subst hj1
    rw [List.getElem?_set_self (by rw [List.length_set]; exact hi)] at hw
    cases hw
  · rw [List.getElem?_set_ne (fun q => hj1 q.symm)] at hw
    by_cases hj : j = i
    · subst hj
      rw [List.getElem?_set_self (by omega)] at hw
      cases hw
      exact h.2.2 (j, v) List.mem_cons_self
    · rw [List.getElem?_set_ne (fun q => hj q.symm)] at hw
      refine h.2.2 (j, w) (List.mem_cons_of_mem _ (List.mem_filter.mpr ⟨lq_mem.mpr hw, ?_⟩))
      by_cases hc : j + 1 = i
      · have := lok_cat hok hc hw
        simp [hj, hj1, this]
      · simp [hj, hj1, hc]
/-! the judgement: the machine at pc, with locals lv, stack st, the world as σ has it, comes to its end -/
def WP (E : Ev) (ad : Nat → Nat) (pc : Nat) (lv : List (Option Value)) (st : List Value) (σ : Sg) : Prop := match E with
  | (p, l, e, R, s, m, args, below, meth, c, cells, slots, Q, D, ck, A, nL) => ∀ (H : Heap) (locs : List Loc) (ls : Array Slot), va_P D vwCl (gW ck ad σ) H → va_D A (gW ck ad σ) → va_S A s.heap H locs → lh ls nL lv → W p l e R s m args below meth c H locs cells slots Q (F0 m pc ls st)
def Cx (E : Ev) (l0 : Launch) (R0 : Room) (n0 : Nat) (cc : ByteArray) (own : String) : Prop := match E with
  | (p, l, e, R, s, m, args, below, meth, c, cells, slots, Q, D, ck, A, nL) => l = l0 ∧ R = R0 ∧ nL = n0 ∧ p.tables.exec = Jvm.exec ∧ c.code = cc ∧ c.maxLocals = n0 ∧ s.vm.findClass own = some m.cls ∧ (∀ w ∈ tb, w.before args s = true) ∧ va_K D vwCl (tyk ck) s ∧ (∀ q : Nat, s.heap.size ≤ q → A q) ∧ meth.locks = false ∧ cells ≤ R0.cells ∧ slots ≤ R0.slots
theorem wp_lv {E : Ev} {ad : Nat → Nat} {pc : Nat} {lv lv' : List (Option Value)} {st : List Value} {σ : Sg} (hs : ∀ (i : Nat) (v : Value), lv'[i]? = some (some v) → lv[i]? = some (some v)) (k : WP E ad pc lv' st σ) : WP E ad pc lv st σ := by
  obtain ⟨p, l, e, R, s, m, args, below, meth, c, cells, slots, Q, D, ck, A, nL⟩ := E
  intro H locs ls hP hD hS hl
  exact k H locs ls hP hD hS (lh_sub hl hs)
def lvle : List (Option Value) → List (Option Value) → Prop
  | [], _ => True
  | none :: a, [] => lvle a []
  | none :: a, _ :: b => lvle a b
  | some v :: a, some w :: b => v = w ∧ lvle a b
  | some _ :: _, _ => False
theorem lvle_get : ∀ (a b : List (Option Value)), lvle a b → ∀ (i : Nat) (v : Value), a[i]? = some (some v) → b[i]? = some (some v)
  | [], _, _, i, v, h => by simp at h
  | none :: a, [], h, i, v, hi => by
    match i, hi with
    | 0, hi => simp at hi
    | i + 1, hi => have := lvle_get a [] h i v (by simpa using hi); simp at this
  | none :: a, w :: b, h, i, v, hi => by
    match i, hi with
    | 0, hi => simp at hi
    | i + 1, hi => simpa using lvle_get a b h i v (by simpa using hi)
  | some x :: a, some w :: b, h, i, v, hi => by
    obtain ⟨rfl, h2⟩ := h
    match i, hi with
    | 0, hi => simpa using hi
    | i + 1, hi => simpa using lvle_get a b h2 i v (by simpa using hi)
  | some x :: a, [], h, i, v, hi => absurd h (by simp [lvle])
  | some x :: a, none :: b, h, i, v, hi => absurd h (by simp [lvle])
theorem wp_le {E : Ev} {ad : Nat → Nat} {pc : Nat} {lv lv' : List (Option Value)} {st : List Value} {σ : Sg} (h : lvle lv' lv) (k : WP E ad pc lv' st σ) : WP E ad pc lv st σ := wp_lv (lvle_get _ _ h) k
theorem arrV_ext {c : ClassId} {n : Nat} {f g : Nat → Int32} (h : ∀ j, j < n → f j = g j) : vp_cell c (n, .inl f) = vp_cell c (n, .inl g) := by
  show arrV c n (fun j => Value.int (f j)) = arrV c n (fun j => Value.int (g j))
  unfold arrV
  congr 1
  apply Array.ext
  · simp
  · intro k h1 h2
    simp at h1
    simp [h k h1]
/-- what lies beyond an array's end is free -/
theorem wp_row {E : Ev} {ad : Nat → Nat} {pc : Nat} {lv : List (Option Value)} {st : List Value} {σ : Sg} {i n b : Nat} {f g : Nat → Int32} (y : lay[i]? = some (.inl (0, n, b))) (h : ∀ j, j < n → f j = g j) (k : WP E ad pc lv st (sR σ i g)) : WP E ad pc lv st (sR σ i f) := by
  obtain ⟨p, l, e, R, s, m, args, below, meth, c, cells, slots, Q, D, ck, A, nL⟩ := E
  intro H locs ls hP hD hS hl
  have hE : ∀ j, j ≠ i → ∀ c, gE ck ad (sR σ i f) j c = gE ck ad (sR σ i g) j c := fun j hj c => gE_eq ((sR_o (f := f) j hj).1.symm.trans (sR_o (f := g) j hj).1) rfl c
  refine k H locs ls (fun q w hw => ?_) ⟨fun a b p q ha hb hpq => ?_, fun q w hw => ?_⟩ hS hl
  · obtain ⟨c1, h1, rfl⟩ := gW_some hw
    have h2 := hP q _ (gW_at h1)
    by_cases hq : q = i
    · subst hq
      rw [y] at h1
      cases h1
      show H[ad q]? = some (vp_cell (ck 0) (n, .inl ((sR σ q g).1 q)))
      have h3 : H[ad q]? = some (vp_cell (ck 0) (n, .inl ((sR σ q f).1 q))) := h2
      rw [h3, arrV_ext (g := (sR σ q g).1 q) (fun j hj => ?_)]
      show va_up σ.1 q f q j = va_up σ.1 q g q j
      rw [va_up_self, va_up_self]
      exact h j hj
    · rw [hE q hq] at h2
      exact h2
  · obtain ⟨c1, h1, rfl⟩ := gW_some ha
    obtain ⟨c2, h2, rfl⟩ := gW_some hb
    exact hD.1 a b _ _ (gW_at h1) (gW_at h2) hpq
  · obtain ⟨c1, h1, rfl⟩ := gW_some hw
    have h2 := hD.2 q _ (gW_at (ck := ck) (ad := ad) (σ := sR σ i f) h1)
    exact h2
section ROWS
variable {E : Ev} {ad : Nat → Nat} {l0 : Launch} {R0 : Room} {n0 : Nat} {cc : ByteArray} {own : String} {pc : Nat} {lv : List (Option Value)} {st : List Value} {σ : Sg}

theorem s_iconst (C : Cx E l0 R0 n0 cc own) {n : Int} (d : decode cc pc = .ok (.iconst n, 1)) (h : (Int32.ofInt n).toInt = n) (k : ∀ z : Int32, z.toInt = n → WP E ad (pc + 1) lv (.int z :: st) σ) : WP E ad pc lv (st) σ := by
  obtain ⟨p, l, e, R, s, m, args, below, meth, c, cells, slots, Q, D, ck, A, nL⟩ := E
  obtain ⟨rfl, rfl, rfl, hx, hb, hml, hown, hts, hK, hA, hlk, hc1, hc2⟩ := C
  intro H locs ls hP hD hS hl
  exact lv_iconst hx hb d rfl (k _ h H locs ls hP hD hS hl)
theorem s_bipush (C : Cx E l0 R0 n0 cc own) {n : Int} (d : decode cc pc = .ok (.bipush n, 2)) (h : ((Int8.ofInt n).toInt32).toInt = n) (k : ∀ z : Int32, z.toInt = n → WP E ad (pc + 2) lv (.int z :: st) σ) : WP E ad pc lv (st) σ := by
  obtain ⟨p, l, e, R, s, m, args, below, meth, c, cells, slots, Q, D, ck, A, nL⟩ := E
  obtain ⟨rfl, rfl, rfl, hx, hb, hml, hown, hts, hK, hA, hlk, hc1, hc2⟩ := C
  intro H locs ls hP hD hS hl
  exact lv_bipush hx hb d rfl (k _ h H locs ls hP hD hS hl)
theorem s_sipush (C : Cx E l0 R0 n0 cc own) {n : Int} (d : decode cc pc = .ok (.sipush n, 3)) (h : ((Int16.ofInt n).toInt32).toInt = n) (k : ∀ z : Int32, z.toInt = n → WP E ad (pc + 3) lv (.int z :: st) σ) : WP E ad pc lv (st) σ := by
  obtain ⟨p, l, e, R, s, m, args, below, meth, c, cells, slots, Q, D, ck, A, nL⟩ := E
  obtain ⟨rfl, rfl, rfl, hx, hb, hml, hown, hts, hK, hA, hlk, hc1, hc2⟩ := C
  intro H locs ls hP hD hS hl
  exact lv_sipush hx hb d rfl (k _ h H locs ls hP hD hS hl)
theorem s_ldc (C : Cx E l0 R0 n0 cc own) {i : Nat} {v : Int32} (d : decode cc pc = .ok (.ldc i, 2)) (hw : Cond.constant own i v ∈ tb) (k : WP E ad (pc + 2) lv (.int v :: st) σ) : WP E ad pc lv (st) σ := by
  obtain ⟨p, l, e, R, s, m, args, below, meth, c, cells, slots, Q, D, ck, A, nL⟩ := E
  obtain ⟨rfl, rfl, rfl, hx, hb, hml, hown, hts, hK, hA, hlk, hc1, hc2⟩ := C
  intro H locs ls hP hD hS hl
  exact lv_ldc hx hb hown (hts _ hw) d (k H locs ls hP hD hS hl)
theorem s_ldcw (C : Cx E l0 R0 n0 cc own) {i : Nat} {v : Int32} (d : decode cc pc = .ok (.ldc_w i, 3)) (hw : Cond.constant own i v ∈ tb) (k : WP E ad (pc + 3) lv (.int v :: st) σ) : WP E ad pc lv (st) σ := by
  obtain ⟨p, l, e, R, s, m, args, below, meth, c, cells, slots, Q, D, ck, A, nL⟩ := E
  obtain ⟨rfl, rfl, rfl, hx, hb, hml, hown, hts, hK, hA, hlk, hc1, hc2⟩ := C
  intro H locs ls hP hD hS hl
  exact lv_ldcw hx hb hown (hts _ hw) d (k H locs ls hP hD hS hl)
theorem s_ldc2 (C : Cx E l0 R0 n0 cc own) {i : Nat} {v : Int64} (d : decode cc pc = .ok (.ldc2_w i, 3)) (hw : Cond.constantLong own i v ∈ tb) (k : WP E ad (pc + 3) lv (.long v :: st) σ) : WP E ad pc lv (st) σ := by
  obtain ⟨p, l, e, R, s, m, args, below, meth, c, cells, slots, Q, D, ck, A, nL⟩ := E
  obtain ⟨rfl, rfl, rfl, hx, hb, hml, hown, hts, hK, hA, hlk, hc1, hc2⟩ := C
  intro H locs ls hP hD hS hl
  exact lv_ldc2 hx hb hown (hts _ hw) d (k H locs ls hP hD hS hl)
theorem s_lconst (C : Cx E l0 R0 n0 cc own) {n : Fin 2} (d : decode cc pc = .ok (.lconst n, 1)) (h : (Int64.ofNat (n : Nat)).toInt = (n : Nat)) (k : ∀ z : Int64, z.toInt = (n : Nat) → WP E ad (pc + 1) lv (.long z :: st) σ) : WP E ad pc lv (st) σ := by
  obtain ⟨p, l, e, R, s, m, args, below, meth, c, cells, slots, Q, D, ck, A, nL⟩ := E
  obtain ⟨rfl, rfl, rfl, hx, hb, hml, hown, hts, hK, hA, hlk, hc1, hc2⟩ := C
  intro H locs ls hP hD hS hl
  exact lv_lconst hx hb d rfl (k _ h H locs ls hP hD hS hl)
theorem s_iload_n (C : Cx E l0 R0 n0 cc own) {j : Fin 4} {x : Int32} (d : decode cc pc = .ok (.iload_n j, 1)) (h : lv[(j : Nat)]? = some (some (.int x))) (k : WP E ad (pc + 1) lv (.int x :: st) σ) : WP E ad pc lv (st) σ := by
  obtain ⟨p, l, e, R, s, m, args, below, meth, c, cells, slots, Q, D, ck, A, nL⟩ := E
  obtain ⟨rfl, rfl, rfl, hx, hb, hml, hown, hts, hK, hA, hlk, hc1, hc2⟩ := C
  intro H locs ls hP hD hS hl
  exact lv_iload_n hx hb d rfl (hl.2.2 _ _ h) (k H locs ls hP hD hS hl)
theorem s_iload (C : Cx E l0 R0 n0 cc own) {j : Nat} {x : Int32} (d : decode cc pc = .ok (.iload j, 2)) (h : lv[j]? = some (some (.int x))) (k : WP E ad (pc + 2) lv (.int x :: st) σ) : WP E ad pc lv (st) σ := by
  obtain ⟨p, l, e, R, s, m, args, below, meth, c, cells, slots, Q, D, ck, A, nL⟩ := E
  obtain ⟨rfl, rfl, rfl, hx, hb, hml, hown, hts, hK, hA, hlk, hc1, hc2⟩ := C
  intro H locs ls hP hD hS hl
  exact lv_iload hx hb d (hl.2.2 _ _ h) (k H locs ls hP hD hS hl)
theorem s_aload_n (C : Cx E l0 R0 n0 cc own) {j : Fin 4} {x : Nat} (d : decode cc pc = .ok (.aload_n j, 1)) (h : lv[(j : Nat)]? = some (some (.ref x))) (k : WP E ad (pc + 1) lv (.ref x :: st) σ) : WP E ad pc lv (st) σ := by
  obtain ⟨p, l, e, R, s, m, args, below, meth, c, cells, slots, Q, D, ck, A, nL⟩ := E
  obtain ⟨rfl, rfl, rfl, hx, hb, hml, hown, hts, hK, hA, hlk, hc1, hc2⟩ := C
  intro H locs ls hP hD hS hl
  exact lv_aload_n hx hb d rfl (hl.2.2 _ _ h) (k H locs ls hP hD hS hl)
theorem s_lload_n (C : Cx E l0 R0 n0 cc own) {j : Fin 4} {x : Int64} (d : decode cc pc = .ok (.lload_n j, 1)) (h : lv[(j : Nat)]? = some (some (.long x))) (k : WP E ad (pc + 1) lv (.long x :: st) σ) : WP E ad pc lv (st) σ := by
  obtain ⟨p, l, e, R, s, m, args, below, meth, c, cells, slots, Q, D, ck, A, nL⟩ := E
  obtain ⟨rfl, rfl, rfl, hx, hb, hml, hown, hts, hK, hA, hlk, hc1, hc2⟩ := C
  intro H locs ls hP hD hS hl
  exact lv_lload_n hx hb d rfl (hl.2.2 _ _ h) (k H locs ls hP hD hS hl)
theorem s_lload (C : Cx E l0 R0 n0 cc own) {j : Nat} {x : Int64} (d : decode cc pc = .ok (.lload j, 2)) (h : lv[j]? = some (some (.long x))) (k : WP E ad (pc + 2) lv (.long x :: st) σ) : WP E ad pc lv (st) σ := by
  obtain ⟨p, l, e, R, s, m, args, below, meth, c, cells, slots, Q, D, ck, A, nL⟩ := E
  obtain ⟨rfl, rfl, rfl, hx, hb, hml, hown, hts, hK, hA, hlk, hc1, hc2⟩ := C
  intro H locs ls hP hD hS hl
  exact lv_lload hx hb d (hl.2.2 _ _ h) (k H locs ls hP hD hS hl)
theorem s_istore_n (C : Cx E l0 R0 n0 cc own) {j : Fin 4} {x : Int32} (d : decode cc pc = .ok (.istore_n j, 1)) (hn : (j : Nat) < n0) (hi : (j : Nat) < lv.length) (hok : lok lv j = true) (k : WP E ad (pc + 1) (lv.set j (some (.int x))) (st) σ) : WP E ad pc lv (.int x :: st) σ := by
  obtain ⟨p, l, e, R, s, m, args, below, meth, c, cells, slots, Q, D, ck, A, nL⟩ := E
  obtain ⟨rfl, rfl, rfl, hx, hb, hml, hown, hts, hK, hA, hlk, hc1, hc2⟩ := C
  intro H locs ls hP hD hS hl
  exact lv_istore_n hx hb d rfl (lq_of hl) hn rfl (fun ls hl => k H locs ls hP hD hS (lh_st1 hl hok hi))
theorem s_astore_n (C : Cx E l0 R0 n0 cc own) {j : Fin 4} {x : Nat} (d : decode cc pc = .ok (.astore_n j, 1)) (hn : (j : Nat) < n0) (hi : (j : Nat) < lv.length) (hok : lok lv j = true) (k : WP E ad (pc + 1) (lv.set j (some (.ref x))) (st) σ) : WP E ad pc lv (.ref x :: st) σ := by
  obtain ⟨p, l, e, R, s, m, args, below, meth, c, cells, slots, Q, D, ck, A, nL⟩ := E
  obtain ⟨rfl, rfl, rfl, hx, hb, hml, hown, hts, hK, hA, hlk, hc1, hc2⟩ := C
  intro H locs ls hP hD hS hl
  exact lv_astore_n hx hb d rfl (lq_of hl) hn rfl (fun ls hl => k H locs ls hP hD hS (lh_st1 hl hok hi))
theorem s_istore (C : Cx E l0 R0 n0 cc own) {j : Nat} {x : Int32} (d : decode cc pc = .ok (.istore j, 2)) (hn : j < n0) (hi : j < lv.length) (hok : lok lv j = true) (k : WP E ad (pc + 2) (lv.set j (some (.int x))) (st) σ) : WP E ad pc lv (.int x :: st) σ := by
  obtain ⟨p, l, e, R, s, m, args, below, meth, c, cells, slots, Q, D, ck, A, nL⟩ := E
  obtain ⟨rfl, rfl, rfl, hx, hb, hml, hown, hts, hK, hA, hlk, hc1, hc2⟩ := C
  intro H locs ls hP hD hS hl
  exact lv_istore hx hb d (lq_of hl) hn rfl (fun ls hl => k H locs ls hP hD hS (lh_st1 hl hok hi))
theorem s_lstore_n (C : Cx E l0 R0 n0 cc own) {j : Fin 4} {x : Int64} (d : decode cc pc = .ok (.lstore_n j, 1)) (hn : (j : Nat) + 1 < n0) (hi : (j : Nat) + 1 < lv.length) (hok : lok lv j = true) (k : WP E ad (pc + 1) ((lv.set j (some (.long x))).set (j + 1) none) (st) σ) : WP E ad pc lv (.long x :: st) σ := by
  obtain ⟨p, l, e, R, s, m, args, below, meth, c, cells, slots, Q, D, ck, A, nL⟩ := E
  obtain ⟨rfl, rfl, rfl, hx, hb, hml, hown, hts, hK, hA, hlk, hc1, hc2⟩ := C
  intro H locs ls hP hD hS hl
  exact lv_lstore_n hx hb d rfl (lq_of hl) hn rfl (fun ls hl => k H locs ls hP hD hS (lh_st2 hl hok hi))
theorem s_iinc (C : Cx E l0 R0 n0 cc own) {j : Nat} {n : Int} {x : Int32} (d : decode cc pc = .ok (.iinc j n, 3)) (h : lv[j]? = some (some (.int x))) (hn : j < n0) (hok : lok lv j = true) (hz : (Int32.ofInt n).toInt = n) (hr : -2147483648 ≤ x.toInt + n ∧ x.toInt + n < 2147483648) (k : ∀ z : Int32, z.toInt = x.toInt + n → WP E ad (pc + 3) (lv.set j (some (.int z))) (st) σ) : WP E ad pc lv st σ := by
  obtain ⟨p, l, e, R, s, m, args, below, meth, c, cells, slots, Q, D, ck, A, nL⟩ := E
  obtain ⟨rfl, rfl, rfl, hx, hb, hml, hown, hts, hK, hA, hlk, hc1, hc2⟩ := C
  intro H locs ls hP hD hS hl
  obtain ⟨q, hq⟩ := List.getElem?_of_mem (lq_mem.mpr h)
  have ez : (x + Int32.ofInt n).toInt = x.toInt + n := by rw [Jvm.Kit.i32_add (by rw [hz]; omega) (by rw [hz]; omega), hz]
  exact lv_iinc hx hb d (lq_of hl) hq rfl hn rfl (fun ls hl => k _ ez H locs ls hP hD hS (lh_st1 hl hok (List.getElem?_eq_some_iff.mp h).1))
theorem s_iadd (C : Cx E l0 R0 n0 cc own) {x y : Int32} (d : decode cc pc = .ok (.iadd, 1)) (h : -2147483648 ≤ x.toInt + y.toInt ∧ x.toInt + y.toInt < 2147483648) (k : ∀ z : Int32, z.toInt = x.toInt + y.toInt → WP E ad (pc + 1) lv (.int z :: st) σ) : WP E ad pc lv (.int y :: .int x :: st) σ := by
  obtain ⟨p, l, e, R, s, m, args, below, meth, c, cells, slots, Q, D, ck, A, nL⟩ := E
  obtain ⟨rfl, rfl, rfl, hx, hb, hml, hown, hts, hK, hA, hlk, hc1, hc2⟩ := C
  intro H locs ls hP hD hS hl
  exact lv_iadd hx hb d (k _ (Jvm.Kit.i32_add (by omega) (by omega)) H locs ls hP hD hS hl)
theorem s_iaddU (C : Cx E l0 R0 n0 cc own) {x y : Int32} (d : decode cc pc = .ok (.iadd, 1)) (k : ∀ z : Int32, z = x + y → WP E ad (pc + 1) lv (.int z :: st) σ) : WP E ad pc lv (.int y :: .int x :: st) σ := by
  obtain ⟨p, l, e, R, s, m, args, below, meth, c, cells, slots, Q, D, ck, A, nL⟩ := E
  obtain ⟨rfl, rfl, rfl, hx, hb, hml, hown, hts, hK, hA, hlk, hc1, hc2⟩ := C
  intro H locs ls hP hD hS hl
  exact lv_iadd hx hb d (k _ rfl H locs ls hP hD hS hl)
theorem s_isub (C : Cx E l0 R0 n0 cc own) {x y : Int32} (d : decode cc pc = .ok (.isub, 1)) (h : -2147483648 ≤ x.toInt - y.toInt ∧ x.toInt - y.toInt < 2147483648) (k : ∀ z : Int32, z.toInt = x.toInt - y.toInt → WP E ad (pc + 1) lv (.int z :: st) σ) : WP E ad pc lv (.int y :: .int x :: st) σ := by
  obtain ⟨p, l, e, R, s, m, args, below, meth, c, cells, slots, Q, D, ck, A, nL⟩ := E
  obtain ⟨rfl, rfl, rfl, hx, hb, hml, hown, hts, hK, hA, hlk, hc1, hc2⟩ := C
  intro H locs ls hP hD hS hl
  exact lv_isub hx hb d (k _ (Jvm.Kit.i32_sub (by omega) (by omega)) H locs ls hP hD hS hl)
theorem s_isubU (C : Cx E l0 R0 n0 cc own) {x y : Int32} (d : decode cc pc = .ok (.isub, 1)) (k : ∀ z : Int32, z = x - y → WP E ad (pc + 1) lv (.int z :: st) σ) : WP E ad pc lv (.int y :: .int x :: st) σ := by
  obtain ⟨p, l, e, R, s, m, args, below, meth, c, cells, slots, Q, D, ck, A, nL⟩ := E
  obtain ⟨rfl, rfl, rfl, hx, hb, hml, hown, hts, hK, hA, hlk, hc1, hc2⟩ := C
  intro H locs ls hP hD hS hl
  exact lv_isub hx hb d (k _ rfl H locs ls hP hD hS hl)
theorem s_imul (C : Cx E l0 R0 n0 cc own) {x y : Int32} (d : decode cc pc = .ok (.imul, 1)) (h : -2147483648 ≤ x.toInt * y.toInt ∧ x.toInt * y.toInt < 2147483648) (k : ∀ z : Int32, z.toInt = x.toInt * y.toInt → WP E ad (pc + 1) lv (.int z :: st) σ) : WP E ad pc lv (.int y :: .int x :: st) σ := by
  obtain ⟨p, l, e, R, s, m, args, below, meth, c, cells, slots, Q, D, ck, A, nL⟩ := E
  obtain ⟨rfl, rfl, rfl, hx, hb, hml, hown, hts, hK, hA, hlk, hc1, hc2⟩ := C
  intro H locs ls hP hD hS hl
  exact lv_imul hx hb d (k _ (Jvm.Kit.i32_mul (by omega) (by omega)) H locs ls hP hD hS hl)
theorem s_imulU (C : Cx E l0 R0 n0 cc own) {x y : Int32} (d : decode cc pc = .ok (.imul, 1)) (k : ∀ z : Int32, z = x * y → WP E ad (pc + 1) lv (.int z :: st) σ) : WP E ad pc lv (.int y :: .int x :: st) σ := by
  obtain ⟨p, l, e, R, s, m, args, below, meth, c, cells, slots, Q, D, ck, A, nL⟩ := E
  obtain ⟨rfl, rfl, rfl, hx, hb, hml, hown, hts, hK, hA, hlk, hc1, hc2⟩ := C
  intro H locs ls hP hD hS hl
  exact lv_imul hx hb d (k _ rfl H locs ls hP hD hS hl)
theorem s_imulL (C : Cx E l0 R0 n0 cc own) {x y : Int32} {n : Int} (hc : x.toInt = n) (d : decode cc pc = .ok (.imul, 1)) (h : -2147483648 ≤ n * y.toInt ∧ n * y.toInt < 2147483648) (k : ∀ z : Int32, z.toInt = n * y.toInt → WP E ad (pc + 1) lv (.int z :: st) σ) : WP E ad pc lv (.int y :: .int x :: st) σ := by
  obtain ⟨p, l, e, R, s, m, args, below, meth, c, cells, slots, Q, D, ck, A, nL⟩ := E
  obtain ⟨rfl, rfl, rfl, hx, hb, hml, hown, hts, hK, hA, hlk, hc1, hc2⟩ := C
  intro H locs ls hP hD hS hl
  subst hc
  exact lv_imul hx hb d (k _ (Jvm.Kit.i32_mul (by omega) (by omega)) H locs ls hP hD hS hl)
theorem s_imulR (C : Cx E l0 R0 n0 cc own) {x y : Int32} {n : Int} (hc : y.toInt = n) (d : decode cc pc = .ok (.imul, 1)) (h : -2147483648 ≤ x.toInt * n ∧ x.toInt * n < 2147483648) (k : ∀ z : Int32, z.toInt = x.toInt * n → WP E ad (pc + 1) lv (.int z :: st) σ) : WP E ad pc lv (.int y :: .int x :: st) σ := by
  obtain ⟨p, l, e, R, s, m, args, below, meth, c, cells, slots, Q, D, ck, A, nL⟩ := E
  obtain ⟨rfl, rfl, rfl, hx, hb, hml, hown, hts, hK, hA, hlk, hc1, hc2⟩ := C
  intro H locs ls hP hD hS hl
  subst hc
  exact lv_imul hx hb d (k _ (Jvm.Kit.i32_mul (by omega) (by omega)) H locs ls hP hD hS hl)
theorem s_iand (C : Cx E l0 R0 n0 cc own) {x y : Int32} (d : decode cc pc = .ok (.iand, 1)) (k : ∀ z : Int32, z = x &&& y → WP E ad (pc + 1) lv (.int z :: st) σ) : WP E ad pc lv (.int y :: .int x :: st) σ := by
  obtain ⟨p, l, e, R, s, m, args, below, meth, c, cells, slots, Q, D, ck, A, nL⟩ := E
  obtain ⟨rfl, rfl, rfl, hx, hb, hml, hown, hts, hK, hA, hlk, hc1, hc2⟩ := C
  intro H locs ls hP hD hS hl
  exact lv_iand hx hb d (k _ rfl H locs ls hP hD hS hl)
theorem s_ior (C : Cx E l0 R0 n0 cc own) {x y : Int32} (d : decode cc pc = .ok (.ior, 1)) (k : ∀ z : Int32, z = x ||| y → WP E ad (pc + 1) lv (.int z :: st) σ) : WP E ad pc lv (.int y :: .int x :: st) σ := by
  obtain ⟨p, l, e, R, s, m, args, below, meth, c, cells, slots, Q, D, ck, A, nL⟩ := E
  obtain ⟨rfl, rfl, rfl, hx, hb, hml, hown, hts, hK, hA, hlk, hc1, hc2⟩ := C
  intro H locs ls hP hD hS hl
  exact lv_ior hx hb d (k _ rfl H locs ls hP hD hS hl)
theorem s_ixor (C : Cx E l0 R0 n0 cc own) {x y : Int32} (d : decode cc pc = .ok (.ixor, 1)) (k : ∀ z : Int32, z = x ^^^ y → WP E ad (pc + 1) lv (.int z :: st) σ) : WP E ad pc lv (.int y :: .int x :: st) σ := by
  obtain ⟨p, l, e, R, s, m, args, below, meth, c, cells, slots, Q, D, ck, A, nL⟩ := E
  obtain ⟨rfl, rfl, rfl, hx, hb, hml, hown, hts, hK, hA, hlk, hc1, hc2⟩ := C
  intro H locs ls hP hD hS hl
  exact lv_ixor hx hb d (k _ rfl H locs ls hP hD hS hl)
theorem s_ishl (C : Cx E l0 R0 n0 cc own) {x y : Int32} (d : decode cc pc = .ok (.ishl, 1)) (k : ∀ z : Int32, z = x <<< (y &&& 31) → WP E ad (pc + 1) lv (.int z :: st) σ) : WP E ad pc lv (.int y :: .int x :: st) σ := by
  obtain ⟨p, l, e, R, s, m, args, below, meth, c, cells, slots, Q, D, ck, A, nL⟩ := E
  obtain ⟨rfl, rfl, rfl, hx, hb, hml, hown, hts, hK, hA, hlk, hc1, hc2⟩ := C
  intro H locs ls hP hD hS hl
  exact lv_ishl hx hb d (k _ rfl H locs ls hP hD hS hl)
theorem s_ishr (C : Cx E l0 R0 n0 cc own) {x y : Int32} (d : decode cc pc = .ok (.ishr, 1)) (k : ∀ z : Int32, z = x >>> (y &&& 31) → WP E ad (pc + 1) lv (.int z :: st) σ) : WP E ad pc lv (.int y :: .int x :: st) σ := by
  obtain ⟨p, l, e, R, s, m, args, below, meth, c, cells, slots, Q, D, ck, A, nL⟩ := E
  obtain ⟨rfl, rfl, rfl, hx, hb, hml, hown, hts, hK, hA, hlk, hc1, hc2⟩ := C
  intro H locs ls hP hD hS hl
  exact lv_ishr hx hb d (k _ rfl H locs ls hP hD hS hl)
theorem s_iushr (C : Cx E l0 R0 n0 cc own) {x y : Int32} (d : decode cc pc = .ok (.iushr, 1)) (k : ∀ z : Int32, WP E ad (pc + 1) lv (.int z :: st) σ) : WP E ad pc lv (.int y :: .int x :: st) σ := by
  obtain ⟨p, l, e, R, s, m, args, below, meth, c, cells, slots, Q, D, ck, A, nL⟩ := E
  obtain ⟨rfl, rfl, rfl, hx, hb, hml, hown, hts, hK, hA, hlk, hc1, hc2⟩ := C
  intro H locs ls hP hD hS hl
  exact lv_iushr hx hb d rfl (k _ H locs ls hP hD hS hl)
theorem s_ineg (C : Cx E l0 R0 n0 cc own) {x : Int32} (d : decode cc pc = .ok (.ineg, 1)) (h : x.toInt ≠ -2147483648) (k : ∀ z : Int32, z.toInt = -x.toInt → WP E ad (pc + 1) lv (.int z :: st) σ) : WP E ad pc lv (.int x :: st) σ := by
  obtain ⟨p, l, e, R, s, m, args, below, meth, c, cells, slots, Q, D, ck, A, nL⟩ := E
  obtain ⟨rfl, rfl, rfl, hx, hb, hml, hown, hts, hK, hA, hlk, hc1, hc2⟩ := C
  intro H locs ls hP hD hS hl
  exact lv_ineg hx hb d (k _ (Jvm.Kit.i32_neg h) H locs ls hP hD hS hl)
theorem s_inegU (C : Cx E l0 R0 n0 cc own) {x : Int32} (d : decode cc pc = .ok (.ineg, 1)) (k : ∀ z : Int32, WP E ad (pc + 1) lv (.int z :: st) σ) : WP E ad pc lv (.int x :: st) σ := by
  obtain ⟨p, l, e, R, s, m, args, below, meth, c, cells, slots, Q, D, ck, A, nL⟩ := E
  obtain ⟨rfl, rfl, rfl, hx, hb, hml, hown, hts, hK, hA, hlk, hc1, hc2⟩ := C
  intro H locs ls hP hD hS hl
  exact lv_ineg hx hb d (k _ H locs ls hP hD hS hl)
theorem y_ne {y : Int32} (h : 0 < y.toInt) : ¬ y = 0 := fun q => by rw [q] at h; exact absurd h (by decide)
theorem y_div {x y : Int32} (hx : 0 ≤ x.toInt) (hy : 0 < y.toInt) : (x / y).toInt = x.toInt / y.toInt := by
  rw [Jvm.Kit.i32_div (by omega), Int.tdiv_eq_ediv_of_nonneg hx]
theorem y_rem {x y : Int32} (hx : 0 ≤ x.toInt) (hy : 0 < y.toInt) : (x - x / y * y).toInt = x.toInt % y.toInt := by
  have h1 := x.toInt_lt
  have h2 := y_div hx hy
  have h3 : x.toInt / y.toInt * y.toInt ≤ x.toInt := Int.ediv_mul_le _ (by omega)
  have h4 : 0 ≤ x.toInt / y.toInt * y.toInt := Int.mul_nonneg (Int.ediv_nonneg hx (by omega)) (by omega)
  have h5 : (x / y * y).toInt = x.toInt / y.toInt * y.toInt := by rw [Jvm.Kit.i32_mul (by rw [h2]; omega) (by rw [h2]; omega), h2]
  rw [Jvm.Kit.i32_sub (by rw [h5]; omega) (by rw [h5]; omega), h5, Int.emod_def, Int.mul_comm]
theorem s_idiv (C : Cx E l0 R0 n0 cc own) {x y : Int32} {n : Int} (hc : y.toInt = n) (d : decode cc pc = .ok (.idiv, 1)) (h0 : 0 ≤ x.toInt) (h1 : 0 < n) (k : ∀ z : Int32, z.toInt = x.toInt / n → WP E ad (pc + 1) lv (.int z :: st) σ) : WP E ad pc lv (.int y :: .int x :: st) σ := by
  obtain ⟨p, l, e, R, s, m, args, below, meth, c, cells, slots, Q, D, ck, A, nL⟩ := E
  obtain ⟨rfl, rfl, rfl, hx, hb, hml, hown, hts, hK, hA, hlk, hc1, hc2⟩ := C
  intro H locs ls hP hD hS hl
  subst hc
  exact lv_idiv hx hb d (y_ne h1) (k _ (y_div h0 h1) H locs ls hP hD hS hl)
theorem s_irem (C : Cx E l0 R0 n0 cc own) {x y : Int32} {n : Int} (hc : y.toInt = n) (d : decode cc pc = .ok (.irem, 1)) (h0 : 0 ≤ x.toInt) (h1 : 0 < n) (k : ∀ z : Int32, z.toInt = x.toInt % n → WP E ad (pc + 1) lv (.int z :: st) σ) : WP E ad pc lv (.int y :: .int x :: st) σ := by
  obtain ⟨p, l, e, R, s, m, args, below, meth, c, cells, slots, Q, D, ck, A, nL⟩ := E
  obtain ⟨rfl, rfl, rfl, hx, hb, hml, hown, hts, hK, hA, hlk, hc1, hc2⟩ := C
  intro H locs ls hP hD hS hl
  subst hc
  exact lv_irem hx hb d (y_ne h1) (k _ (y_rem h0 h1) H locs ls hP hD hS hl)
theorem s_i2l (C : Cx E l0 R0 n0 cc own) {x : Int32} (d : decode cc pc = .ok (.i2l, 1)) (k : ∀ z : Int64, z.toInt = x.toInt → WP E ad (pc + 1) lv (.long z :: st) σ) : WP E ad pc lv (.int x :: st) σ := by
  obtain ⟨p, l, e, R, s, m, args, below, meth, c, cells, slots, Q, D, ck, A, nL⟩ := E
  obtain ⟨rfl, rfl, rfl, hx, hb, hml, hown, hts, hK, hA, hlk, hc1, hc2⟩ := C
  intro H locs ls hP hD hS hl
  exact lv_i2l hx hb d rfl (k _ (Jvm.Kit.i64_of_i32 x) H locs ls hP hD hS hl)
theorem s_ladd (C : Cx E l0 R0 n0 cc own) {x y : Int64} (d : decode cc pc = .ok (.ladd, 1)) (k : ∀ z : Int64, WP E ad (pc + 1) lv (.long z :: st) σ) : WP E ad pc lv (.long y :: .long x :: st) σ := by
  obtain ⟨p, l, e, R, s, m, args, below, meth, c, cells, slots, Q, D, ck, A, nL⟩ := E
  obtain ⟨rfl, rfl, rfl, hx, hb, hml, hown, hts, hK, hA, hlk, hc1, hc2⟩ := C
  intro H locs ls hP hD hS hl
  exact lv_ladd hx hb d (k _ H locs ls hP hD hS hl)
theorem s_lmul (C : Cx E l0 R0 n0 cc own) {x y : Int64} (d : decode cc pc = .ok (.lmul, 1)) (k : ∀ z : Int64, WP E ad (pc + 1) lv (.long z :: st) σ) : WP E ad pc lv (.long y :: .long x :: st) σ := by
  obtain ⟨p, l, e, R, s, m, args, below, meth, c, cells, slots, Q, D, ck, A, nL⟩ := E
  obtain ⟨rfl, rfl, rfl, hx, hb, hml, hown, hts, hK, hA, hlk, hc1, hc2⟩ := C
  intro H locs ls hP hD hS hl
  exact lv_lmul hx hb d (k _ H locs ls hP hD hS hl)
theorem s_land (C : Cx E l0 R0 n0 cc own) {x y : Int64} (d : decode cc pc = .ok (.land, 1)) (k : ∀ z : Int64, WP E ad (pc + 1) lv (.long z :: st) σ) : WP E ad pc lv (.long y :: .long x :: st) σ := by
  obtain ⟨p, l, e, R, s, m, args, below, meth, c, cells, slots, Q, D, ck, A, nL⟩ := E
  obtain ⟨rfl, rfl, rfl, hx, hb, hml, hown, hts, hK, hA, hlk, hc1, hc2⟩ := C
  intro H locs ls hP hD hS hl
  exact lv_land hx hb d (k _ H locs ls hP hD hS hl)
theorem s_lor (C : Cx E l0 R0 n0 cc own) {x y : Int64} (d : decode cc pc = .ok (.lor, 1)) (k : ∀ z : Int64, WP E ad (pc + 1) lv (.long z :: st) σ) : WP E ad pc lv (.long y :: .long x :: st) σ := by
  obtain ⟨p, l, e, R, s, m, args, below, meth, c, cells, slots, Q, D, ck, A, nL⟩ := E
  obtain ⟨rfl, rfl, rfl, hx, hb, hml, hown, hts, hK, hA, hlk, hc1, hc2⟩ := C
  intro H locs ls hP hD hS hl
  exact lv_lor hx hb d (k _ H locs ls hP hD hS hl)
theorem s_lshl (C : Cx E l0 R0 n0 cc own) {x : Int64} {y : Int32} (d : decode cc pc = .ok (.lshl, 1)) (k : ∀ z : Int64, WP E ad (pc + 1) lv (.long z :: st) σ) : WP E ad pc lv (.int y :: .long x :: st) σ := by
  obtain ⟨p, l, e, R, s, m, args, below, meth, c, cells, slots, Q, D, ck, A, nL⟩ := E
  obtain ⟨rfl, rfl, rfl, hx, hb, hml, hown, hts, hK, hA, hlk, hc1, hc2⟩ := C
  intro H locs ls hP hD hS hl
  exact lv_lshl hx hb d rfl (k _ H locs ls hP hD hS hl)
theorem y_cmp (x y : Int64) : ((lg_cmp x y).toInt < 0 ↔ x.toInt < y.toInt) ∧ ((lg_cmp x y).toInt = 0 ↔ x.toInt = y.toInt) ∧ (0 < (lg_cmp x y).toInt ↔ y.toInt < x.toInt) := by
  have a := lg_cmp_lt x y
  have b := lg_cmp_eq x y
  have c := lg_cmp_gt x y
  rw [Int32.lt_iff_toInt_lt, Int64.lt_iff_toInt_lt, Int32.toInt_zero] at a c
  rw [← Int32.toInt_inj, ← Int64.toInt_inj, Int32.toInt_zero] at b
  exact ⟨a, b, c⟩
theorem s_lcmp (C : Cx E l0 R0 n0 cc own) {x y : Int64} (d : decode cc pc = .ok (.lcmp, 1)) (k : ∀ z : Int32, (z.toInt < 0 ↔ x.toInt < y.toInt) ∧ (z.toInt = 0 ↔ x.toInt = y.toInt) ∧ (0 < z.toInt ↔ y.toInt < x.toInt) → WP E ad (pc + 1) lv (.int z :: st) σ) : WP E ad pc lv (.long y :: .long x :: st) σ := by
  obtain ⟨p, l, e, R, s, m, args, below, meth, c, cells, slots, Q, D, ck, A, nL⟩ := E
  obtain ⟨rfl, rfl, rfl, hx, hb, hml, hown, hts, hK, hA, hlk, hc1, hc2⟩ := C
  intro H locs ls hP hD hS hl
  exact W.lcmp hx hb d (k _ (y_cmp x y) H locs ls hP hD hS hl)
theorem s_dup (C : Cx E l0 R0 n0 cc own) {v : Value} (d : decode cc pc = .ok (.dup, 1)) (h : v.category = 1) (k : WP E ad (pc + 1) lv (v :: v :: st) σ) : WP E ad pc lv (v :: st) σ := by
  obtain ⟨p, l, e, R, s, m, args, below, meth, c, cells, slots, Q, D, ck, A, nL⟩ := E
  obtain ⟨rfl, rfl, rfl, hx, hb, hml, hown, hts, hK, hA, hlk, hc1, hc2⟩ := C
  intro H locs ls hP hD hS hl
  exact lv_dup hx hb d h (k H locs ls hP hD hS hl)
theorem s_dup2 (C : Cx E l0 R0 n0 cc own) {v w : Value} (d : decode cc pc = .ok (.dup2, 1)) (h : v.category = 1) (h2 : w.category = 1) (k : WP E ad (pc + 1) lv (v :: w :: v :: w :: st) σ) : WP E ad pc lv (v :: w :: st) σ := by
  obtain ⟨p, l, e, R, s, m, args, below, meth, c, cells, slots, Q, D, ck, A, nL⟩ := E
  obtain ⟨rfl, rfl, rfl, hx, hb, hml, hown, hts, hK, hA, hlk, hc1, hc2⟩ := C
  intro H locs ls hP hD hS hl
  exact lv_dup2_11 hx hb d h h2 (k H locs ls hP hD hS hl)
theorem s_pop (C : Cx E l0 R0 n0 cc own) {v : Value} (d : decode cc pc = .ok (.pop, 1)) (h : v.category = 1) (k : WP E ad (pc + 1) lv (st) σ) : WP E ad pc lv (v :: st) σ := by
  obtain ⟨p, l, e, R, s, m, args, below, meth, c, cells, slots, Q, D, ck, A, nL⟩ := E
  obtain ⟨rfl, rfl, rfl, hx, hb, hml, hown, hts, hK, hA, hlk, hc1, hc2⟩ := C
  intro H locs ls hP hD hS hl
  exact lv_pop hx hb d h (k H locs ls hP hD hS hl)
theorem s_pop2 (C : Cx E l0 R0 n0 cc own) {v : Value} (d : decode cc pc = .ok (.pop2, 1)) (h : v.category = 2) (k : WP E ad (pc + 1) lv (st) σ) : WP E ad pc lv (v :: st) σ := by
  obtain ⟨p, l, e, R, s, m, args, below, meth, c, cells, slots, Q, D, ck, A, nL⟩ := E
  obtain ⟨rfl, rfl, rfl, hx, hb, hml, hown, hts, hK, hA, hlk, hc1, hc2⟩ := C
  intro H locs ls hP hD hS hl
  exact lv_pop2_2 hx hb d h (k H locs ls hP hD hS hl)
theorem s_goto (C : Cx E l0 R0 n0 cc own) {off : Int} {tgt : Nat} (d : decode cc pc = .ok (.goto off, 3)) (ht : (pc : Int) + off = (tgt : Int)) (k : WP E ad (tgt) lv (st) σ) : WP E ad pc lv (st) σ := by
  obtain ⟨p, l, e, R, s, m, args, below, meth, c, cells, slots, Q, D, ck, A, nL⟩ := E
  obtain ⟨rfl, rfl, rfl, hx, hb, hml, hown, hts, hK, hA, hlk, hc1, hc2⟩ := C
  intro H locs ls hP hD hS hl
  exact lv_goto hx hb d ht (k H locs ls hP hD hS hl)
theorem z_eq {x y : Int32} : x = y ↔ x.toInt = y.toInt := Int32.toInt_inj.symm
theorem z_lt {x y : Int32} : x < y ↔ x.toInt < y.toInt := Int32.lt_iff_toInt_lt
theorem z_le {x y : Int32} : x ≤ y ↔ x.toInt ≤ y.toInt := Int32.le_iff_toInt_le
theorem z_0 : (0 : Int32).toInt = 0 := rfl
theorem s_if_eq (C : Cx E l0 R0 n0 cc own) {x : Int32} {off : Int} {tgt : Nat} (d : decode cc pc = .ok (.ifCond .eq off, 3)) (ht : (pc : Int) + off = (tgt : Int)) (kt : x.toInt = 0 → WP E ad (tgt) lv (st) σ) (kf : ¬ x.toInt = 0 → WP E ad (pc + 3) lv (st) σ) : WP E ad pc lv (.int x :: st) σ := by
  obtain ⟨p, l, e, R, s, m, args, below, meth, c, cells, slots, Q, D, ck, A, nL⟩ := E
  obtain ⟨rfl, rfl, rfl, hx, hb, hml, hown, hts, hK, hA, hlk, hc1, hc2⟩ := C
  intro H locs ls hP hD hS hl
  exact lv_if_eq hx hb d ht (fun q => kt (by simp only [z_eq, z_lt, z_le, z_0, ge_iff_le, gt_iff_lt, ne_eq] at q; omega) H locs ls hP hD hS hl) (fun q => kf (by simp only [z_eq, z_lt, z_le, z_0, ge_iff_le, gt_iff_lt, ne_eq] at q; omega) H locs ls hP hD hS hl)
theorem s_icmp_eq (C : Cx E l0 R0 n0 cc own) {x y : Int32} {off : Int} {tgt : Nat} (d : decode cc pc = .ok (.if_icmp .eq off, 3)) (ht : (pc : Int) + off = (tgt : Int)) (kt : x.toInt = y.toInt → WP E ad (tgt) lv (st) σ) (kf : ¬ x.toInt = y.toInt → WP E ad (pc + 3) lv (st) σ) : WP E ad pc lv (.int y :: .int x :: st) σ := by
  obtain ⟨p, l, e, R, s, m, args, below, meth, c, cells, slots, Q, D, ck, A, nL⟩ := E
  obtain ⟨rfl, rfl, rfl, hx, hb, hml, hown, hts, hK, hA, hlk, hc1, hc2⟩ := C
  intro H locs ls hP hD hS hl
  exact lv_icmp_eq hx hb d ht (fun q => kt (by simp only [z_eq, z_lt, z_le, z_0, ge_iff_le, gt_iff_lt, ne_eq] at q; omega) H locs ls hP hD hS hl) (fun q => kf (by simp only [z_eq, z_lt, z_le, z_0, ge_iff_le, gt_iff_lt, ne_eq] at q; omega) H locs ls hP hD hS hl)
theorem s_if_ne (C : Cx E l0 R0 n0 cc own) {x : Int32} {off : Int} {tgt : Nat} (d : decode cc pc = .ok (.ifCond .ne off, 3)) (ht : (pc : Int) + off = (tgt : Int)) (kt : ¬ x.toInt = 0 → WP E ad (tgt) lv (st) σ) (kf : x.toInt = 0 → WP E ad (pc + 3) lv (st) σ) : WP E ad pc lv (.int x :: st) σ := by
  obtain ⟨p, l, e, R, s, m, args, below, meth, c, cells, slots, Q, D, ck, A, nL⟩ := E
  obtain ⟨rfl, rfl, rfl, hx, hb, hml, hown, hts, hK, hA, hlk, hc1, hc2⟩ := C
  intro H locs ls hP hD hS hl
  exact lv_if_ne hx hb d ht (fun q => kt (by simp only [z_eq, z_lt, z_le, z_0, ge_iff_le, gt_iff_lt, ne_eq] at q; omega) H locs ls hP hD hS hl) (fun q => kf (by simp only [z_eq, z_lt, z_le, z_0, ge_iff_le, gt_iff_lt, ne_eq] at q; omega) H locs ls hP hD hS hl)
theorem s_icmp_ne (C : Cx E l0 R0 n0 cc own) {x y : Int32} {off : Int} {tgt : Nat} (d : decode cc pc = .ok (.if_icmp .ne off, 3)) (ht : (pc : Int) + off = (tgt : Int)) (kt : ¬ x.toInt = y.toInt → WP E ad (tgt) lv (st) σ) (kf : x.toInt = y.toInt → WP E ad (pc + 3) lv (st) σ) : WP E ad pc lv (.int y :: .int x :: st) σ := by
  obtain ⟨p, l, e, R, s, m, args, below, meth, c, cells, slots, Q, D, ck, A, nL⟩ := E
  obtain ⟨rfl, rfl, rfl, hx, hb, hml, hown, hts, hK, hA, hlk, hc1, hc2⟩ := C
  intro H locs ls hP hD hS hl
  exact lv_icmp_ne hx hb d ht (fun q => kt (by simp only [z_eq, z_lt, z_le, z_0, ge_iff_le, gt_iff_lt, ne_eq] at q; omega) H locs ls hP hD hS hl) (fun q => kf (by simp only [z_eq, z_lt, z_le, z_0, ge_iff_le, gt_iff_lt, ne_eq] at q; omega) H locs ls hP hD hS hl)
theorem s_if_lt (C : Cx E l0 R0 n0 cc own) {x : Int32} {off : Int} {tgt : Nat} (d : decode cc pc = .ok (.ifCond .lt off, 3)) (ht : (pc : Int) + off = (tgt : Int)) (kt : x.toInt < 0 → WP E ad (tgt) lv (st) σ) (kf : 0 ≤ x.toInt → WP E ad (pc + 3) lv (st) σ) : WP E ad pc lv (.int x :: st) σ := by
  obtain ⟨p, l, e, R, s, m, args, below, meth, c, cells, slots, Q, D, ck, A, nL⟩ := E
  obtain ⟨rfl, rfl, rfl, hx, hb, hml, hown, hts, hK, hA, hlk, hc1, hc2⟩ := C
  intro H locs ls hP hD hS hl
  exact lv_if_lt hx hb d ht (fun q => kt (by simp only [z_eq, z_lt, z_le, z_0, ge_iff_le, gt_iff_lt, ne_eq] at q; omega) H locs ls hP hD hS hl) (fun q => kf (by simp only [z_eq, z_lt, z_le, z_0, ge_iff_le, gt_iff_lt, ne_eq] at q; omega) H locs ls hP hD hS hl)
theorem s_icmp_lt (C : Cx E l0 R0 n0 cc own) {x y : Int32} {off : Int} {tgt : Nat} (d : decode cc pc = .ok (.if_icmp .lt off, 3)) (ht : (pc : Int) + off = (tgt : Int)) (kt : x.toInt < y.toInt → WP E ad (tgt) lv (st) σ) (kf : y.toInt ≤ x.toInt → WP E ad (pc + 3) lv (st) σ) : WP E ad pc lv (.int y :: .int x :: st) σ := by
  obtain ⟨p, l, e, R, s, m, args, below, meth, c, cells, slots, Q, D, ck, A, nL⟩ := E
  obtain ⟨rfl, rfl, rfl, hx, hb, hml, hown, hts, hK, hA, hlk, hc1, hc2⟩ := C
  intro H locs ls hP hD hS hl
  exact lv_icmp_lt hx hb d ht (fun q => kt (by simp only [z_eq, z_lt, z_le, z_0, ge_iff_le, gt_iff_lt, ne_eq] at q; omega) H locs ls hP hD hS hl) (fun q => kf (by simp only [z_eq, z_lt, z_le, z_0, ge_iff_le, gt_iff_lt, ne_eq] at q; omega) H locs ls hP hD hS hl)
theorem s_if_ge (C : Cx E l0 R0 n0 cc own) {x : Int32} {off : Int} {tgt : Nat} (d : decode cc pc = .ok (.ifCond .ge off, 3)) (ht : (pc : Int) + off = (tgt : Int)) (kt : 0 ≤ x.toInt → WP E ad (tgt) lv (st) σ) (kf : x.toInt < 0 → WP E ad (pc + 3) lv (st) σ) : WP E ad pc lv (.int x :: st) σ := by
  obtain ⟨p, l, e, R, s, m, args, below, meth, c, cells, slots, Q, D, ck, A, nL⟩ := E
  obtain ⟨rfl, rfl, rfl, hx, hb, hml, hown, hts, hK, hA, hlk, hc1, hc2⟩ := C
  intro H locs ls hP hD hS hl
  exact lv_if_ge hx hb d ht (fun q => kt (by simp only [z_eq, z_lt, z_le, z_0, ge_iff_le, gt_iff_lt, ne_eq] at q; omega) H locs ls hP hD hS hl) (fun q => kf (by simp only [z_eq, z_lt, z_le, z_0, ge_iff_le, gt_iff_lt, ne_eq] at q; omega) H locs ls hP hD hS hl)
theorem s_icmp_ge (C : Cx E l0 R0 n0 cc own) {x y : Int32} {off : Int} {tgt : Nat} (d : decode cc pc = .ok (.if_icmp .ge off, 3)) (ht : (pc : Int) + off = (tgt : Int)) (kt : y.toInt ≤ x.toInt → WP E ad (tgt) lv (st) σ) (kf : x.toInt < y.toInt → WP E ad (pc + 3) lv (st) σ) : WP E ad pc lv (.int y :: .int x :: st) σ := by
  obtain ⟨p, l, e, R, s, m, args, below, meth, c, cells, slots, Q, D, ck, A, nL⟩ := E
  obtain ⟨rfl, rfl, rfl, hx, hb, hml, hown, hts, hK, hA, hlk, hc1, hc2⟩ := C
  intro H locs ls hP hD hS hl
  exact lv_icmp_ge hx hb d ht (fun q => kt (by simp only [z_eq, z_lt, z_le, z_0, ge_iff_le, gt_iff_lt, ne_eq] at q; omega) H locs ls hP hD hS hl) (fun q => kf (by simp only [z_eq, z_lt, z_le, z_0, ge_iff_le, gt_iff_lt, ne_eq] at q; omega) H locs ls hP hD hS hl)
theorem s_if_gt (C : Cx E l0 R0 n0 cc own) {x : Int32} {off : Int} {tgt : Nat} (d : decode cc pc = .ok (.ifCond .gt off, 3)) (ht : (pc : Int) + off = (tgt : Int)) (kt : 0 < x.toInt → WP E ad (tgt) lv (st) σ) (kf : x.toInt ≤ 0 → WP E ad (pc + 3) lv (st) σ) : WP E ad pc lv (.int x :: st) σ := by
  obtain ⟨p, l, e, R, s, m, args, below, meth, c, cells, slots, Q, D, ck, A, nL⟩ := E
  obtain ⟨rfl, rfl, rfl, hx, hb, hml, hown, hts, hK, hA, hlk, hc1, hc2⟩ := C
  intro H locs ls hP hD hS hl
  exact lv_if_gt hx hb d ht (fun q => kt (by simp only [z_eq, z_lt, z_le, z_0, ge_iff_le, gt_iff_lt, ne_eq] at q; omega) H locs ls hP hD hS hl) (fun q => kf (by simp only [z_eq, z_lt, z_le, z_0, ge_iff_le, gt_iff_lt, ne_eq] at q; omega) H locs ls hP hD hS hl)
theorem s_icmp_gt (C : Cx E l0 R0 n0 cc own) {x y : Int32} {off : Int} {tgt : Nat} (d : decode cc pc = .ok (.if_icmp .gt off, 3)) (ht : (pc : Int) + off = (tgt : Int)) (kt : y.toInt < x.toInt → WP E ad (tgt) lv (st) σ) (kf : x.toInt ≤ y.toInt → WP E ad (pc + 3) lv (st) σ) : WP E ad pc lv (.int y :: .int x :: st) σ := by
  obtain ⟨p, l, e, R, s, m, args, below, meth, c, cells, slots, Q, D, ck, A, nL⟩ := E
  obtain ⟨rfl, rfl, rfl, hx, hb, hml, hown, hts, hK, hA, hlk, hc1, hc2⟩ := C
  intro H locs ls hP hD hS hl
  exact lv_icmp_gt hx hb d ht (fun q => kt (by simp only [z_eq, z_lt, z_le, z_0, ge_iff_le, gt_iff_lt, ne_eq] at q; omega) H locs ls hP hD hS hl) (fun q => kf (by simp only [z_eq, z_lt, z_le, z_0, ge_iff_le, gt_iff_lt, ne_eq] at q; omega) H locs ls hP hD hS hl)
theorem s_if_le (C : Cx E l0 R0 n0 cc own) {x : Int32} {off : Int} {tgt : Nat} (d : decode cc pc = .ok (.ifCond .le off, 3)) (ht : (pc : Int) + off = (tgt : Int)) (kt : x.toInt ≤ 0 → WP E ad (tgt) lv (st) σ) (kf : 0 < x.toInt → WP E ad (pc + 3) lv (st) σ) : WP E ad pc lv (.int x :: st) σ := by
  obtain ⟨p, l, e, R, s, m, args, below, meth, c, cells, slots, Q, D, ck, A, nL⟩ := E
  obtain ⟨rfl, rfl, rfl, hx, hb, hml, hown, hts, hK, hA, hlk, hc1, hc2⟩ := C
  intro H locs ls hP hD hS hl
  exact lv_if_le hx hb d ht (fun q => kt (by simp only [z_eq, z_lt, z_le, z_0, ge_iff_le, gt_iff_lt, ne_eq] at q; omega) H locs ls hP hD hS hl) (fun q => kf (by simp only [z_eq, z_lt, z_le, z_0, ge_iff_le, gt_iff_lt, ne_eq] at q; omega) H locs ls hP hD hS hl)
theorem s_icmp_le (C : Cx E l0 R0 n0 cc own) {x y : Int32} {off : Int} {tgt : Nat} (d : decode cc pc = .ok (.if_icmp .le off, 3)) (ht : (pc : Int) + off = (tgt : Int)) (kt : x.toInt ≤ y.toInt → WP E ad (tgt) lv (st) σ) (kf : y.toInt < x.toInt → WP E ad (pc + 3) lv (st) σ) : WP E ad pc lv (.int y :: .int x :: st) σ := by
  obtain ⟨p, l, e, R, s, m, args, below, meth, c, cells, slots, Q, D, ck, A, nL⟩ := E
  obtain ⟨rfl, rfl, rfl, hx, hb, hml, hown, hts, hK, hA, hlk, hc1, hc2⟩ := C
  intro H locs ls hP hD hS hl
  exact lv_icmp_le hx hb d ht (fun q => kt (by simp only [z_eq, z_lt, z_le, z_0, ge_iff_le, gt_iff_lt, ne_eq] at q; omega) H locs ls hP hD hS hl) (fun q => kf (by simp only [z_eq, z_lt, z_le, z_0, ge_iff_le, gt_iff_lt, ne_eq] at q; omega) H locs ls hP hD hS hl)
theorem s_tblIn (C : Cx E l0 R0 n0 cc own) {dflt lo hi off : Int} {offs : Array Int} {len tgt : Nat} {x : Int32} (d : decode cc pc = .ok (.tableswitch dflt lo hi offs, len)) (h1 : ¬ x.toInt < lo) (h2 : ¬ hi < x.toInt) (ho : offs[(x.toInt - lo).toNat]? = some off) (ht : (pc : Int) + off = (tgt : Int)) (k : WP E ad (tgt) lv (st) σ) : WP E ad pc lv (.int x :: st) σ := by
  obtain ⟨p, l, e, R, s, m, args, below, meth, c, cells, slots, Q, D, ck, A, nL⟩ := E
  obtain ⟨rfl, rfl, rfl, hx, hb, hml, hown, hts, hK, hA, hlk, hc1, hc2⟩ := C
  intro H locs ls hP hD hS hl
  exact lv_tableIn hx hb d h1 h2 ho ht (k H locs ls hP hD hS hl)
theorem s_tblOut (C : Cx E l0 R0 n0 cc own) {dflt lo hi : Int} {offs : Array Int} {len tgt : Nat} {x : Int32} (d : decode cc pc = .ok (.tableswitch dflt lo hi offs, len)) (h : x.toInt < lo ∨ hi < x.toInt) (ht : (pc : Int) + dflt = (tgt : Int)) (k : WP E ad (tgt) lv (st) σ) : WP E ad pc lv (.int x :: st) σ := by
  obtain ⟨p, l, e, R, s, m, args, below, meth, c, cells, slots, Q, D, ck, A, nL⟩ := E
  obtain ⟨rfl, rfl, rfl, hx, hb, hml, hown, hts, hK, hA, hlk, hc1, hc2⟩ := C
  intro H locs ls hP hD hS hl
  exact lv_tableOut hx hb d h ht (k H locs ls hP hD hS hl)
theorem s_get (C : Cx E l0 R0 n0 cc own) {i k ci idx : Nat} {fs : List (Option Nat)} {x : Int32} (y : lay[i]? = some (.inr (ci, fs))) (f : Fw own idx ci k) (hf : fs[k]? = some none) (hv : σ.1 i k = x) (d : decode cc pc = .ok (.getfield idx, 3)) (k : WP E ad (pc + 3) lv (.int x :: st) σ) : WP E ad pc lv (.ref (ad i) :: st) σ := by
  obtain ⟨p, l, e, R, s, m, args, below, meth, c, cells, slots, Q, D, ck, A, nL⟩ := E
  obtain ⟨rfl, rfl, rfl, hx, hb, hml, hown, hts, hK, hA, hlk, hc1, hc2⟩ := C
  intro H locs ls hP hD hS hl
  subst hv
  obtain ⟨C, T, N, ty, h1, h2, h3, h4, h5, h6⟩ := f
  exact va_get hx hb hts h4 hown hK hP i (gW_at y) h1 _ h2 (hts _ h3) (fun _ q => q) (fV_at hf) d (k H locs ls hP hD hS hl)
theorem s_getr (C : Cx E l0 R0 n0 cc own) {i k ci idx j : Nat} {fs : List (Option Nat)} (y : lay[i]? = some (.inr (ci, fs))) (f : Fw own idx ci k) (hf : fs[k]? = some (some j)) (d : decode cc pc = .ok (.getfield idx, 3)) (k : WP E ad (pc + 3) lv (.ref (ad j) :: st) σ) : WP E ad pc lv (.ref (ad i) :: st) σ := by
  obtain ⟨p, l, e, R, s, m, args, below, meth, c, cells, slots, Q, D, ck, A, nL⟩ := E
  obtain ⟨rfl, rfl, rfl, hx, hb, hml, hown, hts, hK, hA, hlk, hc1, hc2⟩ := C
  intro H locs ls hP hD hS hl
  obtain ⟨C, T, N, ty, h1, h2, h3, h4, h5, h6⟩ := f
  exact va_get hx hb hts h4 hown hK hP i (gW_at y) h1 _ h2 (hts _ h3) (fun _ q => q) (fV_ref hf) d (k H locs ls hP hD hS hl)
theorem s_put (C : Cx E l0 R0 n0 cc own) {i k ci idx : Nat} {fs : List (Option Nat)} {v : Int32} (y : lay[i]? = some (.inr (ci, fs))) (f : Fw own idx ci k) (g : Fp ci k false) (hf : fs[k]? = some none) (d : decode cc pc = .ok (.putfield idx, 3)) (kk : WP E ad (pc + 3) lv (st) (sV σ i k v)) : WP E ad pc lv (.int v :: .ref (ad i) :: st) σ := by
  obtain ⟨p, l, e, R, s, m, args, below, meth, c, cells, slots, Q, D, ck, A, nL⟩ := E
  obtain ⟨rfl, rfl, rfl, hx, hb, hml, hown, hts, hK, hA, hlk, hc1, hc2⟩ := C
  intro H locs ls hP hD hS hl
  obtain ⟨C, T, N, ty, h1, h2, h3, h4, h5, h6⟩ := f
  obtain ⟨g1, g2⟩ := g C T N h1
  refine va_put hx hb hts h4 ty h5 h6 hown hK hP hD hS i (gW_at y) h1 k h2 (hts _ h3) (fun _ q => q) g1 (ty := .int) g2 rfl rfl (by rw [fV_len]; exact (List.getElem?_eq_some_iff.mp hf).1) d (fun H1 locs1 a1 a2 a3 => ?_)
  have e : (gW ck ad σ).set i (ad i, .inr (ci, (fV ad (σ.1 i) fs).set k (.int v))) = gW ck ad (sV σ i k v) := by
    rw [fV_set hf, ← gW_set (τ := sV σ i k v) y sV_o]
    simp only [gE, sV, va_up_self]
  rw [e] at a1 a2
  exact kk H1 locs1 ls a1 a2 a3 hl
theorem bl_n {v : Int32} (h : v.toInt = 0 ∨ v.toInt = 1) : narrow .boolean (.int v) = .int v ∧ fits .boolean (.int v) = true := by
  have e : v = 0 ∨ v = 1 := by
    rcases h with h | h
    · exact Or.inl (Int32.toInt_inj.mp h)
    · exact Or.inr (Int32.toInt_inj.mp h)
  rcases e with rfl | rfl <;> exact ⟨rfl, rfl⟩
theorem bl_nar {v : Int32} (h : v.toInt = 0 ∨ v.toInt = 1) : vp_nar .boolean v = v := by
  have e : v = 0 ∨ v = 1 := by
    rcases h with h | h
    · exact Or.inl (Int32.toInt_inj.mp h)
    · exact Or.inr (Int32.toInt_inj.mp h)
  rcases e with rfl | rfl <;> rfl
theorem s_putz (C : Cx E l0 R0 n0 cc own) {i k ci idx : Nat} {fs : List (Option Nat)} {v : Int32} (y : lay[i]? = some (.inr (ci, fs))) (f : Fw own idx ci k) (g : Fp ci k true) (hf : fs[k]? = some none) (hv : v.toInt = 0 ∨ v.toInt = 1) (d : decode cc pc = .ok (.putfield idx, 3)) (kk : WP E ad (pc + 3) lv (st) (sV σ i k v)) : WP E ad pc lv (.int v :: .ref (ad i) :: st) σ := by
  obtain ⟨p, l, e, R, s, m, args, below, meth, c, cells, slots, Q, D, ck, A, nL⟩ := E
  obtain ⟨rfl, rfl, rfl, hx, hb, hml, hown, hts, hK, hA, hlk, hc1, hc2⟩ := C
  intro H locs ls hP hD hS hl
  obtain ⟨C, T, N, ty, h1, h2, h3, h4, h5, h6⟩ := f
  obtain ⟨g1, g2⟩ := g C T N h1
  refine va_put hx hb hts h4 ty h5 h6 hown hK hP hD hS i (gW_at y) h1 k h2 (hts _ h3) (fun _ q => q) g1 (ty := .boolean) g2 (bl_n hv).1 (bl_n hv).2 (by rw [fV_len]; exact (List.getElem?_eq_some_iff.mp hf).1) d (fun H1 locs1 a1 a2 a3 => ?_)
  have e : (gW ck ad σ).set i (ad i, .inr (ci, (fV ad (σ.1 i) fs).set k (.int v))) = gW ck ad (sV σ i k v) := by
    rw [fV_set hf, ← gW_set (τ := sV σ i k v) y sV_o]
    simp only [gE, sV, va_up_self]
  rw [e] at a1 a2
  exact kk H1 locs1 ls a1 a2 a3 hl
theorem vin {x : Int32} {n : Nat} (h : 0 ≤ x.toInt ∧ x.toInt < n) : vp_in x n := vp_in_iff.mpr h
theorem s_iald (C : Cx E l0 R0 n0 cc own) {i n b : Nat} {x : Int32} (y : lay[i]? = some (.inl (0, n, b))) (h : 0 ≤ x.toInt ∧ x.toInt < n) {r : Int32} (hv : σ.1 i x.toNatClampNeg = r) (d : decode cc pc = .ok (.iaload, 1)) (k : WP E ad (pc + 1) lv (.int r :: st) σ) : WP E ad pc lv (.int x :: .ref (ad i) :: st) σ := by
  obtain ⟨p, l, e, R, s, m, args, below, meth, c, cells, slots, Q, D, ck, A, nL⟩ := E
  obtain ⟨rfl, rfl, rfl, hx, hb, hml, hown, hts, hK, hA, hlk, hc1, hc2⟩ := C
  intro H locs ls hP hD hS hl
  subst hv
  exact va_iald hx hb hK hP i 0 (gW_at y) rfl (vin h) d (k H locs ls hP hD hS hl)
theorem s_zald (C : Cx E l0 R0 n0 cc own) {i n b : Nat} {x : Int32} (y : lay[i]? = some (.inl (2, n, b))) (h : 0 ≤ x.toInt ∧ x.toInt < n) {r : Int32} (hv : σ.1 i x.toNatClampNeg = r) (d : decode cc pc = .ok (.baload, 1)) (k : WP E ad (pc + 1) lv (.int r :: st) σ) : WP E ad pc lv (.int x :: .ref (ad i) :: st) σ := by
  obtain ⟨p, l, e, R, s, m, args, below, meth, c, cells, slots, Q, D, ck, A, nL⟩ := E
  obtain ⟨rfl, rfl, rfl, hx, hb, hml, hown, hts, hK, hA, hlk, hc1, hc2⟩ := C
  intro H locs ls hP hD hS hl
  subst hv
  exact va_zald hx hb hK hP i 2 (gW_at y) rfl (vin h) d (k H locs ls hP hD hS hl)
theorem s_lald (C : Cx E l0 R0 n0 cc own) {i n b : Nat} {x : Int32} (y : lay[i]? = some (.inl (1, n, b))) (h : 0 ≤ x.toInt ∧ x.toInt < n) {r : Int64} (hv : σ.2 i x.toNatClampNeg = r) (d : decode cc pc = .ok (.laload, 1)) (k : WP E ad (pc + 1) lv (.long r :: st) σ) : WP E ad pc lv (.int x :: .ref (ad i) :: st) σ := by
  obtain ⟨p, l, e, R, s, m, args, below, meth, c, cells, slots, Q, D, ck, A, nL⟩ := E
  obtain ⟨rfl, rfl, rfl, hx, hb, hml, hown, hts, hK, hA, hlk, hc1, hc2⟩ := C
  intro H locs ls hP hD hS hl
  subst hv
  exact va_lald hx hb hK hP i 1 (gW_at y) rfl (vin h) d (k H locs ls hP hD hS hl)
theorem s_aald (C : Cx E l0 R0 n0 cc own) {i n b kd : Nat} {x : Int32} (y : lay[i]? = some (.inl (kd + 3, n, b))) (hk : ∃ C : String, (tyk (fun _ => 0))[kd + 3]?.map (fun q => q.2) = some (.object C)) (h : 0 ≤ x.toInt ∧ x.toInt < n) (d : decode cc pc = .ok (.aaload, 1)) (k : WP E ad (pc + 1) lv (.ref (ad (b + x.toNatClampNeg)) :: st) σ) : WP E ad pc lv (.int x :: .ref (ad i) :: st) σ := by
  obtain ⟨p, l, e, R, s, m, args, below, meth, c, cells, slots, Q, D, ck, A, nL⟩ := E
  obtain ⟨rfl, rfl, rfl, hx, hb, hml, hown, hts, hK, hA, hlk, hc1, hc2⟩ := C
  intro H locs ls hP hD hS hl
  obtain ⟨Cn, hk⟩ := hk
  have ht : (tyk ck)[kd + 3]? = some (ck (kd + 3), .object Cn) := by
    match kd, hk with
    | 0, hk => simp [tyk] at hk ⊢; exact hk
    | 1, hk => simp [tyk] at hk ⊢; exact hk
    | 2, hk => simp [tyk] at hk ⊢; exact hk
    | _ + 3, hk => simp [tyk] at hk
  exact va_aldq (f := fun j => some (ad (b + j))) hx hb hK hP i (kd + 3) (gW_at y) ht (vin h) d (k H locs ls hP hD hS hl)
theorem s_iast (C : Cx E l0 R0 n0 cc own) {i n b : Nat} {x v : Int32} (y : lay[i]? = some (.inl (0, n, b))) (h : 0 ≤ x.toInt ∧ x.toInt < n) (d : decode cc pc = .ok (.iastore, 1)) (k : WP E ad (pc + 1) lv (st) (sV σ i x.toNatClampNeg v)) : WP E ad pc lv (.int v :: .int x :: .ref (ad i) :: st) σ := by
  obtain ⟨p, l, e, R, s, m, args, below, meth, c, cells, slots, Q, D, ck, A, nL⟩ := E
  obtain ⟨rfl, rfl, rfl, hx, hb, hml, hown, hts, hK, hA, hlk, hc1, hc2⟩ := C
  intro H locs ls hP hD hS hl
  refine va_iast hx hb hK hP hD hS i 0 (gW_at y) rfl (vin h) d (fun H1 locs1 a1 a2 a3 => ?_)
  have e : (gW ck ad σ).set i (ad i, .inl (ck 0, n, .inl (upd (σ.1 i) x.toNatClampNeg v))) = gW ck ad (sV σ i x.toNatClampNeg v) := by
    rw [← gW_set (τ := sV σ i x.toNatClampNeg v) y sV_o]
    simp only [gE, gK, sV, va_up_self]
  rw [e] at a1 a2
  exact k H1 locs1 ls a1 a2 a3 hl
theorem s_zast (C : Cx E l0 R0 n0 cc own) {i n b : Nat} {x v : Int32} (y : lay[i]? = some (.inl (2, n, b))) (h : 0 ≤ x.toInt ∧ x.toInt < n) (hv : v.toInt = 0 ∨ v.toInt = 1) (d : decode cc pc = .ok (.bastore, 1)) (k : WP E ad (pc + 1) lv (st) (sV σ i x.toNatClampNeg v)) : WP E ad pc lv (.int v :: .int x :: .ref (ad i) :: st) σ := by
  obtain ⟨p, l, e, R, s, m, args, below, meth, c, cells, slots, Q, D, ck, A, nL⟩ := E
  obtain ⟨rfl, rfl, rfl, hx, hb, hml, hown, hts, hK, hA, hlk, hc1, hc2⟩ := C
  intro H locs ls hP hD hS hl
  refine va_zast hx hb hK hP hD hS i 2 (gW_at y) rfl (vin h) d (fun H1 locs1 a1 a2 a3 => ?_)
  rw [bl_nar hv] at a1 a2
  have e : (gW ck ad σ).set i (ad i, .inl (ck 2, n, .inl (upd (σ.1 i) x.toNatClampNeg v))) = gW ck ad (sV σ i x.toNatClampNeg v) := by
    rw [← gW_set (τ := sV σ i x.toNatClampNeg v) y sV_o]
    simp only [gE, gK, sV, va_up_self]
  rw [e] at a1 a2
  exact k H1 locs1 ls a1 a2 a3 hl
theorem s_last (C : Cx E l0 R0 n0 cc own) {i n b : Nat} {x : Int32} {v : Int64} (y : lay[i]? = some (.inl (1, n, b))) (h : 0 ≤ x.toInt ∧ x.toInt < n) (d : decode cc pc = .ok (.lastore, 1)) (k : WP E ad (pc + 1) lv (st) (sL σ i x.toNatClampNeg v)) : WP E ad pc lv (.long v :: .int x :: .ref (ad i) :: st) σ := by
  obtain ⟨p, l, e, R, s, m, args, below, meth, c, cells, slots, Q, D, ck, A, nL⟩ := E
  obtain ⟨rfl, rfl, rfl, hx, hb, hml, hown, hts, hK, hA, hlk, hc1, hc2⟩ := C
  intro H locs ls hP hD hS hl
  refine va_last hx hb hK hP hD hS i 1 (gW_at y) rfl (vin h) d (fun H1 locs1 a1 a2 a3 => ?_)
  have e : (gW ck ad σ).set i (ad i, .inl (ck 1, n, .inr (.inl (vp_updL (σ.2 i) x.toNatClampNeg v)))) = gW ck ad (sL σ i x.toNatClampNeg v) := by
    rw [← gW_set (τ := sL σ i x.toNatClampNeg v) y sL_o]
    simp only [gE, gK, sL, va_up_self]
  rw [e] at a1 a2
  exact k H1 locs1 ls a1 a2 a3 hl
theorem s_alen0 (C : Cx E l0 R0 n0 cc own) {i n b : Nat} (y : lay[i]? = some (.inl (0, n, b))) (hn : n < 2147483648) (d : decode cc pc = .ok (.arraylength, 1)) (k : ∀ z : Int32, z.toInt = n → WP E ad (pc + 1) lv (.int z :: st) σ) : WP E ad pc lv (.ref (ad i) :: st) σ := by
  obtain ⟨p, l, e, R, s, m, args, below, meth, c, cells, slots, Q, D, ck, A, nL⟩ := E
  obtain ⟨rfl, rfl, rfl, hx, hb, hml, hown, hts, hK, hA, hlk, hc1, hc2⟩ := C
  intro H locs ls hP hD hS hl
  exact va_alen (x := (n, gK ad (σ.1 i) (σ.2 i) b 0)) hx hb hK hP i 0 (gW_at y) (ty := _) rfl rfl d (k _ (nI_toInt (by omega)) H locs ls hP hD hS hl)
theorem s_alen1 (C : Cx E l0 R0 n0 cc own) {i n b : Nat} (y : lay[i]? = some (.inl (1, n, b))) (hn : n < 2147483648) (d : decode cc pc = .ok (.arraylength, 1)) (k : ∀ z : Int32, z.toInt = n → WP E ad (pc + 1) lv (.int z :: st) σ) : WP E ad pc lv (.ref (ad i) :: st) σ := by
  obtain ⟨p, l, e, R, s, m, args, below, meth, c, cells, slots, Q, D, ck, A, nL⟩ := E
  obtain ⟨rfl, rfl, rfl, hx, hb, hml, hown, hts, hK, hA, hlk, hc1, hc2⟩ := C
  intro H locs ls hP hD hS hl
  exact va_alen (x := (n, gK ad (σ.1 i) (σ.2 i) b 1)) hx hb hK hP i 1 (gW_at y) (ty := _) rfl rfl d (k _ (nI_toInt (by omega)) H locs ls hP hD hS hl)
theorem s_alen2 (C : Cx E l0 R0 n0 cc own) {i n b : Nat} (y : lay[i]? = some (.inl (2, n, b))) (hn : n < 2147483648) (d : decode cc pc = .ok (.arraylength, 1)) (k : ∀ z : Int32, z.toInt = n → WP E ad (pc + 1) lv (.int z :: st) σ) : WP E ad pc lv (.ref (ad i) :: st) σ := by
  obtain ⟨p, l, e, R, s, m, args, below, meth, c, cells, slots, Q, D, ck, A, nL⟩ := E
  obtain ⟨rfl, rfl, rfl, hx, hb, hml, hown, hts, hK, hA, hlk, hc1, hc2⟩ := C
  intro H locs ls hP hD hS hl
  exact va_alen (x := (n, gK ad (σ.1 i) (σ.2 i) b 2)) hx hb hK hP i 2 (gW_at y) (ty := _) rfl rfl d (k _ (nI_toInt (by omega)) H locs ls hP hD hS hl)
end ROWS
